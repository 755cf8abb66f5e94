def w_X5_spread_b57_B (N : Nat) (vmBN : Int32) (vmLo : Nat → Int32) (vmHi : Nat → Int32) (vmC : Nat → Int32) (vmB : Nat → Int32) (post : Int32 → (Nat → Int64) → (Nat → Int32) → (Nat → Int32) → (Nat → Int32) → (Nat → Int32) → (Nat → Int32) → Prop) (k34 : Int32 → (Nat → Int64) → (Nat → Int32) → (Nat → Int32) → (Nat → Int32) → (Nat → Int32) → (Nat → Int32) → Prop) (k57 : Int32 → (Nat → Int64) → (Nat → Int32) → (Nat → Int32) → (Nat → Int32) → (Nat → Int32) → (Nat → Int32) → Int32 → Int32 → Prop) (vmHN_b57 : Int32) (vmT_b57 : Nat → Int64) (vmM_b57 : Nat → Int32) (vmK_b57 : Nat → Int32) (vmF_b57 : Nat → Int32) (vmX_b57 : Nat → Int32) (vmH_b57 : Nat → Int32) (x2_b57 : Int32) (x3_b57 : Int32) : Prop :=
  ((x3_b57 < (0 : Int32) → k34 vmHN_b57 vmT_b57 vmM_b57 vmK_b57 vmF_b57 vmX_b57 vmH_b57) ∧ (¬ (x3_b57 < (0 : Int32)) → ∀ x4_19 : Int32, x4_19 = (x3_b57 ^^^ (1 : Int32)) → vp_in x4_19 4000 ∧ ((¬ (vmK_b57 x4_19.toNatClampNeg) = (0 : Int32) → vp_in x3_b57 4000 ∧ ∀ x3_24 : Int32, x3_24 = (vmX_b57 x3_b57.toNatClampNeg) → k57 vmHN_b57 vmT_b57 vmM_b57 vmK_b57 vmF_b57 vmX_b57 vmH_b57 x2_b57 x3_24) ∧ ((vmK_b57 x4_19.toNatClampNeg) = (0 : Int32) → w_X5_start N vmLo vmHi x4_19 (fun r_26 => w_X5_end N vmLo vmHi x4_19 (fun r_27 => w_X5_end N vmLo vmHi x2_b57 (fun r_28 => w_X5_barAt N vmBN vmB r_26 r_27 r_28 (fun r_29 => (((0 : Int32) ≤ r_29 → vp_in x3_b57 4000 ∧ ∀ x3_32 : Int32, x3_32 = (vmX_b57 x3_b57.toNatClampNeg) → k57 vmHN_b57 vmT_b57 vmM_b57 vmK_b57 vmF_b57 vmX_b57 vmH_b57 x2_b57 x3_32) ∧ (¬ ((0 : Int32) ≤ r_29) → vp_in x2_b57 4000 ∧ w_X5_known N vmHN_b57 vmC vmT_b57 vmM_b57 vmK_b57 vmH_b57 x4_19 (vmT_b57 x2_b57.toNatClampNeg) (vmM_b57 x2_b57.toNatClampNeg) (fun vmHN_36 vmT_37 vmM_38 vmK_39 vmH_40 => vp_in x3_b57 4000 ∧ ∀ x3_42 : Int32, x3_42 = (vmX_b57 x3_b57.toNatClampNeg) → k57 vmHN_36 vmT_37 vmM_38 vmK_39 vmF_b57 vmX_b57 vmH_40 x2_b57 x3_42)))))))))))
def w_X5_spread_b57 (N : Nat) (vmBN : Int32) (vmLo : Nat → Int32) (vmHi : Nat → Int32) (vmC : Nat → Int32) (vmB : Nat → Int32) (post : Int32 → (Nat → Int64) → (Nat → Int32) → (Nat → Int32) → (Nat → Int32) → (Nat → Int32) → (Nat → Int32) → Prop) (k34 : Int32 → (Nat → Int64) → (Nat → Int32) → (Nat → Int32) → (Nat → Int32) → (Nat → Int32) → (Nat → Int32) → Prop) : Nat → Int32 → (Nat → Int64) → (Nat → Int32) → (Nat → Int32) → (Nat → Int32) → (Nat → Int32) → (Nat → Int32) → Int32 → Int32 → Prop
  | 0, _, _, _, _, _, _, _, _, _ => False
  | n + 1, vmHN_b57, vmT_b57, vmM_b57, vmK_b57, vmF_b57, vmX_b57, vmH_b57, x2_b57, x3_b57 => w_X5_spread_b57_B N vmBN vmLo vmHi vmC vmB post k34 (w_X5_spread_b57 N vmBN vmLo vmHi vmC vmB post k34 n) vmHN_b57 vmT_b57 vmM_b57 vmK_b57 vmF_b57 vmX_b57 vmH_b57 x2_b57 x3_b57
def w_X5_spread_b34_B (N : Nat) (vmBN : Int32) (vmLo : Nat → Int32) (vmHi : Nat → Int32) (vmC : Nat → Int32) (vmB : Nat → Int32) (post : Int32 → (Nat → Int64) → (Nat → Int32) → (Nat → Int32) → (Nat → Int32) → (Nat → Int32) → (Nat → Int32) → Prop) (k34 : Int32 → (Nat → Int64) → (Nat → Int32) → (Nat → Int32) → (Nat → Int32) → (Nat → Int32) → (Nat → Int32) → Prop) (vmHN_b34 : Int32) (vmT_b34 : Nat → Int64) (vmM_b34 : Nat → Int32) (vmK_b34 : Nat → Int32) (vmF_b34 : Nat → Int32) (vmX_b34 : Nat → Int32) (vmH_b34 : Nat → Int32) : Prop :=
  ((vmHN_b34 ≤ (0 : Int32) → post vmHN_b34 vmT_b34 vmM_b34 vmK_b34 vmF_b34 vmX_b34 vmH_b34) ∧ (¬ (vmHN_b34 ≤ (0 : Int32)) → w_X5_pull N vmHN_b34 vmT_b34 vmM_b34 vmH_b34 (fun r_11 vmHN_12 vmH_13 => w_X5_start N vmLo vmHi r_11 (fun r_14 => vp_in r_14 300 ∧ ∀ x3_16 : Int32, x3_16 = (vmF_b34 r_14.toNatClampNeg) → w_X5_spread_b57 N vmBN vmLo vmHi vmC vmB post k34 N vmHN_12 vmT_b34 vmM_b34 vmK_b34 vmF_b34 vmX_b34 vmH_13 r_11 x3_16))))
def w_X5_spread_b34 (N : Nat) (vmBN : Int32) (vmLo : Nat → Int32) (vmHi : Nat → Int32) (vmC : Nat → Int32) (vmB : Nat → Int32) (post : Int32 → (Nat → Int64) → (Nat → Int32) → (Nat → Int32) → (Nat → Int32) → (Nat → Int32) → (Nat → Int32) → Prop) : Nat → Int32 → (Nat → Int64) → (Nat → Int32) → (Nat → Int32) → (Nat → Int32) → (Nat → Int32) → (Nat → Int32) → Prop
  | 0, _, _, _, _, _, _, _ => False
  | n + 1, vmHN_b34, vmT_b34, vmM_b34, vmK_b34, vmF_b34, vmX_b34, vmH_b34 => w_X5_spread_b34_B N vmBN vmLo vmHi vmC vmB post (w_X5_spread_b34 N vmBN vmLo vmHi vmC vmB post n) vmHN_b34 vmT_b34 vmM_b34 vmK_b34 vmF_b34 vmX_b34 vmH_b34
def w_X5_spread_b11_B (N : Nat) (vmBN : Int32) (vmLo : Nat → Int32) (vmHi : Nat → Int32) (vmC : Nat → Int32) (vmB : Nat → Int32) (post : Int32 → (Nat → Int64) → (Nat → Int32) → (Nat → Int32) → (Nat → Int32) → (Nat → Int32) → (Nat → Int32) → Prop) (k11 : Int32 → (Nat → Int64) → (Nat → Int32) → (Nat → Int32) → (Nat → Int32) → (Nat → Int32) → (Nat → Int32) → Int32 → Prop) (vmHN_b11 : Int32) (vmT_b11 : Nat → Int64) (vmM_b11 : Nat → Int32) (vmK_b11 : Nat → Int32) (vmF_b11 : Nat → Int32) (vmX_b11 : Nat → Int32) (vmH_b11 : Nat → Int32) (x2_b11 : Int32) : Prop :=
  ((x2_b11 < (0 : Int32) → w_X5_spread_b34 N vmBN vmLo vmHi vmC vmB post N vmHN_b11 vmT_b11 vmM_b11 vmK_b11 vmF_b11 vmX_b11 vmH_b11) ∧ (¬ (x2_b11 < (0 : Int32)) → w_X5_known N vmHN_b11 vmC vmT_b11 vmM_b11 vmK_b11 vmH_b11 (x2_b11 ^^^ (1 : Int32)) (0 : Int64) (0 : Int32) (fun vmHN_45 vmT_46 vmM_47 vmK_48 vmH_49 => vp_in x2_b11 4000 ∧ ∀ x2_51 : Int32, x2_51 = (vmX_b11 x2_b11.toNatClampNeg) → k11 vmHN_45 vmT_46 vmM_47 vmK_48 vmF_b11 vmX_b11 vmH_49 x2_51)))
def w_X5_spread_b11 (N : Nat) (vmBN : Int32) (vmLo : Nat → Int32) (vmHi : Nat → Int32) (vmC : Nat → Int32) (vmB : Nat → Int32) (post : Int32 → (Nat → Int64) → (Nat → Int32) → (Nat → Int32) → (Nat → Int32) → (Nat → Int32) → (Nat → Int32) → Prop) : Nat → Int32 → (Nat → Int64) → (Nat → Int32) → (Nat → Int32) → (Nat → Int32) → (Nat → Int32) → (Nat → Int32) → Int32 → Prop
  | 0, _, _, _, _, _, _, _, _ => False
  | n + 1, vmHN_b11, vmT_b11, vmM_b11, vmK_b11, vmF_b11, vmX_b11, vmH_b11, x2_b11 => w_X5_spread_b11_B N vmBN vmLo vmHi vmC vmB post (w_X5_spread_b11 N vmBN vmLo vmHi vmC vmB post n) vmHN_b11 vmT_b11 vmM_b11 vmK_b11 vmF_b11 vmX_b11 vmH_b11 x2_b11
def w_X5_spread (N : Nat) (vmN : Int32) (vmR : Int32) (vmBN : Int32) (vmHN : Int32) (vmLo : Nat → Int32) (vmHi : Nat → Int32) (vmC : Nat → Int32) (vmZ : Nat → Int32) (vmB : Nat → Int32) (vmT : Nat → Int64) (vmM : Nat → Int32) (vmK : Nat → Int32) (vmF : Nat → Int32) (vmX : Nat → Int32) (vmH : Nat → Int32) (x1 : Int32) (post : Int32 → (Nat → Int64) → (Nat → Int32) → (Nat → Int32) → (Nat → Int32) → (Nat → Int32) → (Nat → Int32) → Prop) : Prop :=
  w_X5_begin N vmN vmR vmHN vmLo vmHi vmZ vmK vmF vmX (fun vmHN_2 vmK_3 vmF_4 vmX_5 => vp_in x1 300 ∧ ∀ x2_7 : Int32, x2_7 = (vmF_4 x1.toNatClampNeg) → w_X5_spread_b11 N vmBN vmLo vmHi vmC vmB post N vmHN_2 vmT vmM vmK_3 vmF_4 vmX_5 vmH x2_7)
abbrev rm_X5_spread : Room := { frames := 2, cells := 0, slots := 0, locals := 47 }
set_option maxHeartbeats 4000000 in
set_option maxRecDepth 100000 in
theorem k_X5_spread (l : Launch) (G : va_G) (cI cJ cZ : ClassId) (aM aM1 aM2 aM3 aM4 aM6 aM8 aM9 aM10 aM11 aM12 aM13 aM15 : Nat) (sz N : Nat) (vmN : Int32) (vmR : Int32) (vmBN : Int32) (vmHN : Int32) (vmL : Int32) (vmLo : Nat → Int32) (vmHi : Nat → Int32) (vmC : Nat → Int32) (vmZ : Nat → Int32) (vmB : Nat → Int32) (vmT : Nat → Int64) (vmM : Nat → Int32) (vmK : Nat → Int32) (vmF : Nat → Int32) (vmX : Nat → Int32) (vmH : Nat → Int32) (vmRow : Nat → Int32) (x1 : Int32) (post : Int32 → (Nat → Int64) → (Nat → Int32) → (Nat → Int32) → (Nat → Int32) → (Nat → Int32) → (Nat → Int32) → Prop) (hw : w_X5_spread N vmN vmR vmBN vmHN vmLo vmHi vmC vmZ vmB vmT vmM vmK vmF vmX vmH x1 post) : Met l yX5_spread wsX5_spread rm_X5_spread (kPc G (tyL cI cJ cZ) [.ref aM, .int x1] sz (wdM cI cJ cZ aM aM1 aM2 aM3 aM4 aM6 aM8 aM9 aM10 aM11 aM12 aM13 aM15 vmN vmR vmBN vmHN vmL vmLo vmHi vmC vmZ vmB vmT vmM vmK vmF vmX vmH vmRow)) (va_Qv (fun (u : Int32 × (Nat → Int64) × (Nat → Int32) × (Nat → Int32) × (Nat → Int32) × (Nat → Int32) × (Nat → Int32)) => post u.1 u.2.1 u.2.2.1 u.2.2.2.1 u.2.2.2.2.1 u.2.2.2.2.2.1 u.2.2.2.2.2.2) (kB G (tyL cI cJ cZ) (va_A (wdM cI cJ cZ aM aM1 aM2 aM3 aM4 aM6 aM8 aM9 aM10 aM11 aM12 aM13 aM15 vmN vmR vmBN vmHN vmL vmLo vmHi vmC vmZ vmB vmT vmM vmK vmF vmX vmH vmRow) sz) (fun (u : Int32 × (Nat → Int64) × (Nat → Int32) × (Nat → Int32) × (Nat → Int32) × (Nat → Int32) × (Nat → Int32)) => wdM cI cJ cZ aM aM1 aM2 aM3 aM4 aM6 aM8 aM9 aM10 aM11 aM12 aM13 aM15 vmN vmR vmBN u.1 vmL vmLo vmHi vmC vmZ vmB u.2.1 u.2.2.1 u.2.2.2.1 u.2.2.2.2.1 u.2.2.2.2.2.1 u.2.2.2.2.2.2 vmRow)) (va_A (wdM cI cJ cZ aM aM1 aM2 aM3 aM4 aM6 aM8 aM9 aM10 aM11 aM12 aM13 aM15 vmN vmR vmBN vmHN vmL vmLo vmHi vmC vmZ vmB vmT vmM vmK vmF vmX vmH vmRow) sz)) 0 0 (va_A (wdM cI cJ cZ aM aM1 aM2 aM3 aM4 aM6 aM8 aM9 aM10 aM11 aM12 aM13 aM15 vmN vmR vmBN vmHN vmL vmLo vmHi vmC vmZ vmB vmT vmM vmK vmF vmX vmH vmRow) sz) := by
  refine km_v (cc := cX5_spread) (maxL := 5) (by decide) rfl (Nat.le_of_ble_eq_true rfl) ?_
  intro p e s m below meth c A Q ls hx hb hml hts hown hnm hK hN hA hP hD hS hl hret
  replace hown : s.vm.findClass RX5 = some m.cls := hown
  replace hl : lv_has ls 5 [(0, .ref aM), (1, .int x1)] := hl
  have b34 : ∀ (n34 : Nat) (vmHN_b34 : Int32) (vmT_b34 : Nat → Int64) (vmM_b34 : Nat → Int32) (vmK_b34 : Nat → Int32) (vmF_b34 : Nat → Int32) (vmX_b34 : Nat → Int32) (vmH_b34 : Nat → Int32) (H : Heap) (locs : List Loc) (ls : Array Slot), w_X5_spread_b34 N vmBN vmLo vmHi vmC vmB post n34 vmHN_b34 vmT_b34 vmM_b34 vmK_b34 vmF_b34 vmX_b34 vmH_b34 → va_P G vwCl (wdM cI cJ cZ aM aM1 aM2 aM3 aM4 aM6 aM8 aM9 aM10 aM11 aM12 aM13 aM15 vmN vmR vmBN vmHN_b34 vmL vmLo vmHi vmC vmZ vmB vmT_b34 vmM_b34 vmK_b34 vmF_b34 vmX_b34 vmH_b34 vmRow) H → va_D A (wdM cI cJ cZ aM aM1 aM2 aM3 aM4 aM6 aM8 aM9 aM10 aM11 aM12 aM13 aM15 vmN vmR vmBN vmHN_b34 vmL vmLo vmHi vmC vmZ vmB vmT_b34 vmM_b34 vmK_b34 vmF_b34 vmX_b34 vmH_b34 vmRow) → va_S A s.heap H locs → lv_has ls 5 [(0, .ref aM)] → W p l e rm_X5_spread s m ([.ref aM, .int x1] : List Value).toArray below meth c H locs 0 0 Q (F0 m 34 ls []) := by
    intro n34
    induction n34 with
    | zero => intro vmHN_b34 vmT_b34 vmM_b34 vmK_b34 vmF_b34 vmX_b34 vmH_b34 H locs ls hw; exact hw.elim
    | succ n34 ih34 =>
      intro vmHN_b34 vmT_b34 vmM_b34 vmK_b34 vmF_b34 vmX_b34 vmH_b34 H locs ls hw hP hD hS hl
      replace hw : w_X5_spread_b34_B N vmBN vmLo vmHi vmC vmB post (w_X5_spread_b34 N vmBN vmLo vmHi vmC vmB post n34) vmHN_b34 vmT_b34 vmM_b34 vmK_b34 vmF_b34 vmX_b34 vmH_b34 := hw
      unfold w_X5_spread_b34_B at hw
      have b57 : ∀ (n57 : Nat) (vmHN_b57 : Int32) (vmT_b57 : Nat → Int64) (vmM_b57 : Nat → Int32) (vmK_b57 : Nat → Int32) (vmF_b57 : Nat → Int32) (vmX_b57 : Nat → Int32) (vmH_b57 : Nat → Int32) (x2_b57 : Int32) (x3_b57 : Int32) (H : Heap) (locs : List Loc) (ls : Array Slot), w_X5_spread_b57 N vmBN vmLo vmHi vmC vmB post (w_X5_spread_b34 N vmBN vmLo vmHi vmC vmB post n34) n57 vmHN_b57 vmT_b57 vmM_b57 vmK_b57 vmF_b57 vmX_b57 vmH_b57 x2_b57 x3_b57 → va_P G vwCl (wdM cI cJ cZ aM aM1 aM2 aM3 aM4 aM6 aM8 aM9 aM10 aM11 aM12 aM13 aM15 vmN vmR vmBN vmHN_b57 vmL vmLo vmHi vmC vmZ vmB vmT_b57 vmM_b57 vmK_b57 vmF_b57 vmX_b57 vmH_b57 vmRow) H → va_D A (wdM cI cJ cZ aM aM1 aM2 aM3 aM4 aM6 aM8 aM9 aM10 aM11 aM12 aM13 aM15 vmN vmR vmBN vmHN_b57 vmL vmLo vmHi vmC vmZ vmB vmT_b57 vmM_b57 vmK_b57 vmF_b57 vmX_b57 vmH_b57 vmRow) → va_S A s.heap H locs → lv_has ls 5 [(0, .ref aM), (2, .int x2_b57), (3, .int x3_b57)] → W p l e rm_X5_spread s m ([.ref aM, .int x1] : List Value).toArray below meth c H locs 0 0 Q (F0 m 57 ls []) := by
        intro n57
        induction n57 with
        | zero => intro vmHN_b57 vmT_b57 vmM_b57 vmK_b57 vmF_b57 vmX_b57 vmH_b57 x2_b57 x3_b57 H locs ls hw; exact hw.elim
        | succ n57 ih57 =>
          intro vmHN_b57 vmT_b57 vmM_b57 vmK_b57 vmF_b57 vmX_b57 vmH_b57 x2_b57 x3_b57 H locs ls hw hP hD hS hl
          replace hw : w_X5_spread_b57_B N vmBN vmLo vmHi vmC vmB post (w_X5_spread_b34 N vmBN vmLo vmHi vmC vmB post n34) (w_X5_spread_b57 N vmBN vmLo vmHi vmC vmB post (w_X5_spread_b34 N vmBN vmLo vmHi vmC vmB post n34) n57) vmHN_b57 vmT_b57 vmM_b57 vmK_b57 vmF_b57 vmX_b57 vmH_b57 x2_b57 x3_b57 := hw
          unfold w_X5_spread_b57_B at hw
          refine lv_iload_n hx hb dX5_spread_57 rfl (lv_at hl 2 rfl) ?_
          refine lv_if_lt (tgt := 128) hx hb dX5_spread_58 (by decide) (fun c_18 => ?_) (fun c_18 => ?_)
          · replace hw := hw.1 c_18
            refine lv_goto (tgt := 34) hx hb dX5_spread_128 (by decide) ?_
            replace hl : lv_has ls 5 [(0, .ref aM)] := lv_sub hl [0] rfl
            exact ih34 vmHN_b57 vmT_b57 vmM_b57 vmK_b57 vmF_b57 vmX_b57 vmH_b57 _ _ _ hw hP hD hS hl
          · replace hw := hw.2 c_18
            refine lv_iload_n hx hb dX5_spread_61 rfl (lv_at hl 2 rfl) ?_
            refine lv_iconst (v := (1 : Int32)) hx hb dX5_spread_62 (by decide) ?_
            refine lv_ixor hx hb dX5_spread_63 ?_
            refine lv_topi (fun x4_19 e_20 => ?_)
            replace hw := hw x4_19 e_20
            refine lv_istore (lv' := [(4, .int x4_19), (0, .ref aM), (2, .int x2_b57), (3, .int x3_b57)]) hx hb dX5_spread_64 hl (by decide) rfl (fun ls hl => ?_)
            refine lv_aload_n hx hb dX5_spread_66 rfl (lv_at hl 1 rfl) ?_
            refine va_get (D := G) (ci := 5) (v := .ref aM10) (C := RX5) (T := TX5) (N := 17) hx hb hts (fun _ h => List.mem_cons_of_mem _ (List.mem_append_right _ h)) hown hK hP 0 rfl rfl 10 (by decide) (hts _ (List.mem_of_getElem? (i := 4) rfl)) (fun _ h9 => h9) rfl dX5_spread_67 ?_
            refine lv_iload hx hb dX5_spread_70 (lv_at hl 0 rfl) ?_
            have h_21 := hw.1
            replace hw := hw.2
            refine va_zald hx hb hK hP 8 2 rfl rfl h_21 dX5_spread_72 ?_
            refine lv_if_ne (tgt := 118) hx hb dX5_spread_73 (by decide) (fun c_22 => ?_) (fun c_22 => ?_)
            · replace hw := hw.1 c_22
              refine lv_aload_n hx hb dX5_spread_118 rfl (lv_at hl 1 rfl) ?_
              refine va_get (D := G) (ci := 5) (v := .ref aM12) (C := RX5) (T := TX5) (N := 17) hx hb hts (fun _ h => List.mem_cons_of_mem _ (List.mem_append_right _ h)) hown hK hP 0 rfl rfl 12 (by decide) (hts _ (List.mem_of_getElem? (i := 2) rfl)) (fun _ h9 => h9) rfl dX5_spread_119 ?_
              refine lv_iload_n hx hb dX5_spread_122 rfl (lv_at hl 3 rfl) ?_
              have h_23 := hw.1
              replace hw := hw.2
              refine va_iald hx hb hK hP 10 0 rfl rfl h_23 dX5_spread_123 ?_
              refine lv_topi (fun x3_24 e_25 => ?_)
              replace hw := hw x3_24 e_25
              refine lv_istore_n (lv' := [(3, .int x3_24), (4, .int x4_19), (0, .ref aM), (2, .int x2_b57)]) hx hb dX5_spread_124 rfl hl (by decide) rfl (fun ls hl => ?_)
              refine lv_goto (tgt := 57) hx hb dX5_spread_125 (by decide) ?_
              replace hl : lv_has ls 5 [(0, .ref aM), (2, .int x2_b57), (3, .int x3_24)] := lv_sub hl [2, 3, 0] rfl
              exact ih57 vmHN_b57 vmT_b57 vmM_b57 vmK_b57 vmF_b57 vmX_b57 vmH_b57 x2_b57 x3_24 _ _ _ hw hP hD hS hl
            · replace hw := hw.2 c_22
              refine lv_aload_n hx hb dX5_spread_76 rfl (lv_at hl 1 rfl) ?_
              refine lv_aload_n hx hb dX5_spread_77 rfl (lv_at hl 1 rfl) ?_
              refine lv_iload hx hb dX5_spread_78 (lv_at hl 0 rfl) ?_
              refine kc_Vi (As := [.int x4_19]) (rest := [.ref aM]) (wc := wdM cI cJ cZ aM aM1 aM2 aM3 aM4 aM6 aM8 aM9 aM10 aM11 aM12 aM13 aM15 vmN vmR vmBN vmHN_b57 vmL vmLo vmHi vmC vmZ vmB vmT_b57 vmM_b57 vmK_b57 vmF_b57 vmX_b57 vmH_b57 vmRow) (wr := []) ⟨hx, hb, hml, hown, hts⟩ (cwV 1 hts gX5_spread_X5_start rfl rfl rfl (by decide +kernel) ⟨Nat.le_of_ble_eq_true rfl, Nat.le_of_ble_eq_true rfl⟩) hK hN hA hP hD hS [0, 1, 2, 3, 4, 5, 6, 7, 8, 9, 10, 11, 12] [] rfl rfl (by decide) (by decide) (by decide) 0 rfl rfl (k_X5_start l G cI cJ cZ aM aM1 aM2 aM3 aM4 aM6 aM8 aM9 aM10 aM11 aM12 aM13 aM15 _ N vmN vmR vmBN vmHN_b57 vmL vmLo vmHi vmC vmZ vmB vmT_b57 vmM_b57 vmK_b57 vmF_b57 vmX_b57 vmH_b57 vmRow x4_19 _ hw) rfl hl.1 rfl (Nat.le_of_ble_eq_true rfl) dX5_spread_80 ⟨Nat.le_of_ble_eq_true rfl, Nat.le_of_ble_eq_true rfl⟩ (fun r_26 u_ H locs hw hP hD hS => ?_)
              replace hP : va_P G vwCl (wdM cI cJ cZ aM aM1 aM2 aM3 aM4 aM6 aM8 aM9 aM10 aM11 aM12 aM13 aM15 vmN vmR vmBN vmHN_b57 vmL vmLo vmHi vmC vmZ vmB vmT_b57 vmM_b57 vmK_b57 vmF_b57 vmX_b57 vmH_b57 vmRow) H := hP.sub [0, 1, 2, 3, 4, 5, 6, 7, 8, 9, 10, 11, 12] rfl
              replace hD : va_D A (wdM cI cJ cZ aM aM1 aM2 aM3 aM4 aM6 aM8 aM9 aM10 aM11 aM12 aM13 aM15 vmN vmR vmBN vmHN_b57 vmL vmLo vmHi vmC vmZ vmB vmT_b57 vmM_b57 vmK_b57 vmF_b57 vmX_b57 vmH_b57 vmRow) := hD.sub [0, 1, 2, 3, 4, 5, 6, 7, 8, 9, 10, 11, 12] (by decide) rfl
              refine lv_aload_n hx hb dX5_spread_83 rfl (lv_at hl 1 rfl) ?_
              refine lv_iload hx hb dX5_spread_84 (lv_at hl 0 rfl) ?_
              refine kc_Vi (As := [.int x4_19]) (rest := [.int r_26, .ref aM]) (wc := wdM cI cJ cZ aM aM1 aM2 aM3 aM4 aM6 aM8 aM9 aM10 aM11 aM12 aM13 aM15 vmN vmR vmBN vmHN_b57 vmL vmLo vmHi vmC vmZ vmB vmT_b57 vmM_b57 vmK_b57 vmF_b57 vmX_b57 vmH_b57 vmRow) (wr := []) ⟨hx, hb, hml, hown, hts⟩ (cwV 1 hts gX5_spread_X5_end rfl rfl rfl (by decide +kernel) ⟨Nat.le_of_ble_eq_true rfl, Nat.le_of_ble_eq_true rfl⟩) hK hN hA hP hD hS [0, 1, 2, 3, 4, 5, 6, 7, 8, 9, 10, 11, 12] [] rfl rfl (by decide) (by decide) (by decide) 0 rfl rfl (k_X5_end l G cI cJ cZ aM aM1 aM2 aM3 aM4 aM6 aM8 aM9 aM10 aM11 aM12 aM13 aM15 _ N vmN vmR vmBN vmHN_b57 vmL vmLo vmHi vmC vmZ vmB vmT_b57 vmM_b57 vmK_b57 vmF_b57 vmX_b57 vmH_b57 vmRow x4_19 _ hw) rfl hl.1 rfl (Nat.le_of_ble_eq_true rfl) dX5_spread_86 ⟨Nat.le_of_ble_eq_true rfl, Nat.le_of_ble_eq_true rfl⟩ (fun r_27 u_ H locs hw hP hD hS => ?_)
              replace hP : va_P G vwCl (wdM cI cJ cZ aM aM1 aM2 aM3 aM4 aM6 aM8 aM9 aM10 aM11 aM12 aM13 aM15 vmN vmR vmBN vmHN_b57 vmL vmLo vmHi vmC vmZ vmB vmT_b57 vmM_b57 vmK_b57 vmF_b57 vmX_b57 vmH_b57 vmRow) H := hP.sub [0, 1, 2, 3, 4, 5, 6, 7, 8, 9, 10, 11, 12] rfl
              replace hD : va_D A (wdM cI cJ cZ aM aM1 aM2 aM3 aM4 aM6 aM8 aM9 aM10 aM11 aM12 aM13 aM15 vmN vmR vmBN vmHN_b57 vmL vmLo vmHi vmC vmZ vmB vmT_b57 vmM_b57 vmK_b57 vmF_b57 vmX_b57 vmH_b57 vmRow) := hD.sub [0, 1, 2, 3, 4, 5, 6, 7, 8, 9, 10, 11, 12] (by decide) rfl
              refine lv_aload_n hx hb dX5_spread_89 rfl (lv_at hl 1 rfl) ?_
              refine lv_iload_n hx hb dX5_spread_90 rfl (lv_at hl 2 rfl) ?_
              refine kc_Vi (As := [.int x2_b57]) (rest := [.int r_27, .int r_26, .ref aM]) (wc := wdM cI cJ cZ aM aM1 aM2 aM3 aM4 aM6 aM8 aM9 aM10 aM11 aM12 aM13 aM15 vmN vmR vmBN vmHN_b57 vmL vmLo vmHi vmC vmZ vmB vmT_b57 vmM_b57 vmK_b57 vmF_b57 vmX_b57 vmH_b57 vmRow) (wr := []) ⟨hx, hb, hml, hown, hts⟩ (cwV 1 hts gX5_spread_X5_end rfl rfl rfl (by decide +kernel) ⟨Nat.le_of_ble_eq_true rfl, Nat.le_of_ble_eq_true rfl⟩) hK hN hA hP hD hS [0, 1, 2, 3, 4, 5, 6, 7, 8, 9, 10, 11, 12] [] rfl rfl (by decide) (by decide) (by decide) 0 rfl rfl (k_X5_end l G cI cJ cZ aM aM1 aM2 aM3 aM4 aM6 aM8 aM9 aM10 aM11 aM12 aM13 aM15 _ N vmN vmR vmBN vmHN_b57 vmL vmLo vmHi vmC vmZ vmB vmT_b57 vmM_b57 vmK_b57 vmF_b57 vmX_b57 vmH_b57 vmRow x2_b57 _ hw) rfl hl.1 rfl (Nat.le_of_ble_eq_true rfl) dX5_spread_91 ⟨Nat.le_of_ble_eq_true rfl, Nat.le_of_ble_eq_true rfl⟩ (fun r_28 u_ H locs hw hP hD hS => ?_)
              replace hP : va_P G vwCl (wdM cI cJ cZ aM aM1 aM2 aM3 aM4 aM6 aM8 aM9 aM10 aM11 aM12 aM13 aM15 vmN vmR vmBN vmHN_b57 vmL vmLo vmHi vmC vmZ vmB vmT_b57 vmM_b57 vmK_b57 vmF_b57 vmX_b57 vmH_b57 vmRow) H := hP.sub [0, 1, 2, 3, 4, 5, 6, 7, 8, 9, 10, 11, 12] rfl
              replace hD : va_D A (wdM cI cJ cZ aM aM1 aM2 aM3 aM4 aM6 aM8 aM9 aM10 aM11 aM12 aM13 aM15 vmN vmR vmBN vmHN_b57 vmL vmLo vmHi vmC vmZ vmB vmT_b57 vmM_b57 vmK_b57 vmF_b57 vmX_b57 vmH_b57 vmRow) := hD.sub [0, 1, 2, 3, 4, 5, 6, 7, 8, 9, 10, 11, 12] (by decide) rfl
              refine kc_Vi (As := [.int r_26, .int r_27, .int r_28]) (rest := []) (wc := wdM cI cJ cZ aM aM1 aM2 aM3 aM4 aM6 aM8 aM9 aM10 aM11 aM12 aM13 aM15 vmN vmR vmBN vmHN_b57 vmL vmLo vmHi vmC vmZ vmB vmT_b57 vmM_b57 vmK_b57 vmF_b57 vmX_b57 vmH_b57 vmRow) (wr := []) ⟨hx, hb, hml, hown, hts⟩ (cwV 3 hts gX5_spread_X5_barAt rfl rfl rfl (by decide +kernel) ⟨Nat.le_of_ble_eq_true rfl, Nat.le_of_ble_eq_true rfl⟩) hK hN hA hP hD hS [0, 1, 2, 3, 4, 5, 6, 7, 8, 9, 10, 11, 12] [] rfl rfl (by decide) (by decide) (by decide) 0 rfl rfl (k_X5_barAt l G cI cJ cZ aM aM1 aM2 aM3 aM4 aM6 aM8 aM9 aM10 aM11 aM12 aM13 aM15 _ N vmN vmR vmBN vmHN_b57 vmL vmLo vmHi vmC vmZ vmB vmT_b57 vmM_b57 vmK_b57 vmF_b57 vmX_b57 vmH_b57 vmRow r_26 r_27 r_28 _ hw) rfl hl.1 rfl (Nat.le_of_ble_eq_true rfl) dX5_spread_94 ⟨Nat.le_of_ble_eq_true rfl, Nat.le_of_ble_eq_true rfl⟩ (fun r_29 u_ H locs hw hP hD hS => ?_)
              replace hP : va_P G vwCl (wdM cI cJ cZ aM aM1 aM2 aM3 aM4 aM6 aM8 aM9 aM10 aM11 aM12 aM13 aM15 vmN vmR vmBN vmHN_b57 vmL vmLo vmHi vmC vmZ vmB vmT_b57 vmM_b57 vmK_b57 vmF_b57 vmX_b57 vmH_b57 vmRow) H := hP.sub [0, 1, 2, 3, 4, 5, 6, 7, 8, 9, 10, 11, 12] rfl
              replace hD : va_D A (wdM cI cJ cZ aM aM1 aM2 aM3 aM4 aM6 aM8 aM9 aM10 aM11 aM12 aM13 aM15 vmN vmR vmBN vmHN_b57 vmL vmLo vmHi vmC vmZ vmB vmT_b57 vmM_b57 vmK_b57 vmF_b57 vmX_b57 vmH_b57 vmRow) := hD.sub [0, 1, 2, 3, 4, 5, 6, 7, 8, 9, 10, 11, 12] (by decide) rfl
              refine lv_if_ge (tgt := 118) hx hb dX5_spread_97 (by decide) (fun c_30 => ?_) (fun c_30 => ?_)
              · replace hw := hw.1 c_30
                refine lv_aload_n hx hb dX5_spread_118 rfl (lv_at hl 1 rfl) ?_
                refine va_get (D := G) (ci := 5) (v := .ref aM12) (C := RX5) (T := TX5) (N := 17) hx hb hts (fun _ h => List.mem_cons_of_mem _ (List.mem_append_right _ h)) hown hK hP 0 rfl rfl 12 (by decide) (hts _ (List.mem_of_getElem? (i := 2) rfl)) (fun _ h9 => h9) rfl dX5_spread_119 ?_
                refine lv_iload_n hx hb dX5_spread_122 rfl (lv_at hl 3 rfl) ?_
                have h_31 := hw.1
                replace hw := hw.2
                refine va_iald hx hb hK hP 10 0 rfl rfl h_31 dX5_spread_123 ?_
                refine lv_topi (fun x3_32 e_33 => ?_)
                replace hw := hw x3_32 e_33
                refine lv_istore_n (lv' := [(3, .int x3_32), (4, .int x4_19), (0, .ref aM), (2, .int x2_b57)]) hx hb dX5_spread_124 rfl hl (by decide) rfl (fun ls hl => ?_)
                refine lv_goto (tgt := 57) hx hb dX5_spread_125 (by decide) ?_
                replace hl : lv_has ls 5 [(0, .ref aM), (2, .int x2_b57), (3, .int x3_32)] := lv_sub hl [2, 3, 0] rfl
                exact ih57 vmHN_b57 vmT_b57 vmM_b57 vmK_b57 vmF_b57 vmX_b57 vmH_b57 x2_b57 x3_32 _ _ _ hw hP hD hS hl
              · replace hw := hw.2 c_30
                refine lv_aload_n hx hb dX5_spread_100 rfl (lv_at hl 1 rfl) ?_
                refine lv_iload hx hb dX5_spread_101 (lv_at hl 0 rfl) ?_
                refine lv_aload_n hx hb dX5_spread_103 rfl (lv_at hl 1 rfl) ?_
                refine va_get (D := G) (ci := 5) (v := .ref aM8) (C := RX5) (T := TX5) (N := 17) hx hb hts (fun _ h => List.mem_cons_of_mem _ (List.mem_append_right _ h)) hown hK hP 0 rfl rfl 8 (by decide) (hts _ (List.mem_of_getElem? (i := 5) rfl)) (fun _ h9 => h9) rfl dX5_spread_104 ?_
                refine lv_iload_n hx hb dX5_spread_107 rfl (lv_at hl 2 rfl) ?_
                have h_34 := hw.1
                replace hw := hw.2
                refine va_lald hx hb hK hP 6 1 rfl rfl h_34 dX5_spread_108 ?_
                refine lv_aload_n hx hb dX5_spread_109 rfl (lv_at hl 1 rfl) ?_
                refine va_get (D := G) (ci := 5) (v := .ref aM9) (C := RX5) (T := TX5) (N := 17) hx hb hts (fun _ h => List.mem_cons_of_mem _ (List.mem_append_right _ h)) hown hK hP 0 rfl rfl 9 (by decide) (hts _ (List.mem_of_getElem? (i := 6) rfl)) (fun _ h9 => h9) rfl dX5_spread_110 ?_
                refine lv_iload_n hx hb dX5_spread_113 rfl (lv_at hl 2 rfl) ?_
                refine va_iald hx hb hK hP 7 0 rfl rfl h_34 dX5_spread_114 ?_
                refine kc_Vv (As := [.int x4_19, .long (vmT_b57 x2_b57.toNatClampNeg), .int (vmM_b57 x2_b57.toNatClampNeg)]) (rest := []) (wc := wdM cI cJ cZ aM aM1 aM2 aM3 aM4 aM6 aM8 aM9 aM10 aM11 aM12 aM13 aM15 vmN vmR vmBN vmHN_b57 vmL vmLo vmHi vmC vmZ vmB vmT_b57 vmM_b57 vmK_b57 vmF_b57 vmX_b57 vmH_b57 vmRow) (wr := []) ⟨hx, hb, hml, hown, hts⟩ (cwV 3 hts gX5_spread_X5_known rfl rfl rfl (by decide +kernel) ⟨Nat.le_of_ble_eq_true rfl, Nat.le_of_ble_eq_true rfl⟩) hK hN hA hP hD hS [0, 1, 2, 3, 4, 5, 6, 7, 8, 9, 10, 11, 12] [] rfl rfl (by decide) (by decide) (by decide) 0 rfl rfl (k_X5_known l G cI cJ cZ aM aM1 aM2 aM3 aM4 aM6 aM8 aM9 aM10 aM11 aM12 aM13 aM15 _ N vmN vmR vmBN vmHN_b57 vmL vmLo vmHi vmC vmZ vmB vmT_b57 vmM_b57 vmK_b57 vmF_b57 vmX_b57 vmH_b57 vmRow x4_19 (vmT_b57 x2_b57.toNatClampNeg) (vmM_b57 x2_b57.toNatClampNeg) _ hw) rfl hl.1 rfl (Nat.le_of_ble_eq_true rfl) dX5_spread_115 ⟨Nat.le_of_ble_eq_true rfl, Nat.le_of_ble_eq_true rfl⟩ (fun u_ H locs hw hP hD hS => ?_)
                obtain ⟨vmHN_36, vmT_37, vmM_38, vmK_39, vmH_40⟩ := u_
                replace hP : va_P G vwCl (wdM cI cJ cZ aM aM1 aM2 aM3 aM4 aM6 aM8 aM9 aM10 aM11 aM12 aM13 aM15 vmN vmR vmBN vmHN_36 vmL vmLo vmHi vmC vmZ vmB vmT_37 vmM_38 vmK_39 vmF_b57 vmX_b57 vmH_40 vmRow) H := hP.sub [0, 1, 2, 3, 4, 5, 6, 7, 8, 9, 10, 11, 12] rfl
                replace hD : va_D A (wdM cI cJ cZ aM aM1 aM2 aM3 aM4 aM6 aM8 aM9 aM10 aM11 aM12 aM13 aM15 vmN vmR vmBN vmHN_36 vmL vmLo vmHi vmC vmZ vmB vmT_37 vmM_38 vmK_39 vmF_b57 vmX_b57 vmH_40 vmRow) := hD.sub [0, 1, 2, 3, 4, 5, 6, 7, 8, 9, 10, 11, 12] (by decide) rfl
                refine lv_aload_n hx hb dX5_spread_118 rfl (lv_at hl 1 rfl) ?_
                refine va_get (D := G) (ci := 5) (v := .ref aM12) (C := RX5) (T := TX5) (N := 17) hx hb hts (fun _ h => List.mem_cons_of_mem _ (List.mem_append_right _ h)) hown hK hP 0 rfl rfl 12 (by decide) (hts _ (List.mem_of_getElem? (i := 2) rfl)) (fun _ h9 => h9) rfl dX5_spread_119 ?_
                refine lv_iload_n hx hb dX5_spread_122 rfl (lv_at hl 3 rfl) ?_
                have h_41 := hw.1
                replace hw := hw.2
                refine va_iald hx hb hK hP 10 0 rfl rfl h_41 dX5_spread_123 ?_
                refine lv_topi (fun x3_42 e_43 => ?_)
                replace hw := hw x3_42 e_43
                refine lv_istore_n (lv' := [(3, .int x3_42), (4, .int x4_19), (0, .ref aM), (2, .int x2_b57)]) hx hb dX5_spread_124 rfl hl (by decide) rfl (fun ls hl => ?_)
                refine lv_goto (tgt := 57) hx hb dX5_spread_125 (by decide) ?_
                replace hl : lv_has ls 5 [(0, .ref aM), (2, .int x2_b57), (3, .int x3_42)] := lv_sub hl [2, 3, 0] rfl
                exact ih57 vmHN_36 vmT_37 vmM_38 vmK_39 vmF_b57 vmX_b57 vmH_40 x2_b57 x3_42 _ _ _ hw hP hD hS hl
      refine lv_aload_n hx hb dX5_spread_34 rfl (lv_at hl 0 rfl) ?_
      refine va_get (D := G) (ci := 5) (v := .int vmHN_b34) (C := RX5) (T := TX5) (N := 17) hx hb hts (fun _ h => List.mem_cons_of_mem _ (List.mem_append_right _ h)) hown hK hP 0 rfl rfl 14 (by decide) (hts _ (List.mem_of_getElem? (i := 3) rfl)) (fun _ h9 => h9) rfl dX5_spread_35 ?_
      refine lv_if_le (tgt := 131) hx hb dX5_spread_38 (by decide) (fun c_10 => ?_) (fun c_10 => ?_)
      · replace hw := hw.1 c_10
        exact hret 131 (vmHN_b34, vmT_b34, vmM_b34, vmK_b34, vmF_b34, vmX_b34, vmH_b34) _ _ _ dX5_spread_131 hw hP hD hS
      · replace hw := hw.2 c_10
        refine lv_aload_n hx hb dX5_spread_41 rfl (lv_at hl 0 rfl) ?_
        refine kc_Vi (As := []) (rest := []) (wc := wdM cI cJ cZ aM aM1 aM2 aM3 aM4 aM6 aM8 aM9 aM10 aM11 aM12 aM13 aM15 vmN vmR vmBN vmHN_b34 vmL vmLo vmHi vmC vmZ vmB vmT_b34 vmM_b34 vmK_b34 vmF_b34 vmX_b34 vmH_b34 vmRow) (wr := []) ⟨hx, hb, hml, hown, hts⟩ (cwV 0 hts gX5_spread_X5_pull rfl rfl rfl (by decide +kernel) ⟨Nat.le_of_ble_eq_true rfl, Nat.le_of_ble_eq_true rfl⟩) hK hN hA hP hD hS [0, 1, 2, 3, 4, 5, 6, 7, 8, 9, 10, 11, 12] [] rfl rfl (by decide) (by decide) (by decide) 0 rfl rfl (k_X5_pull l G cI cJ cZ aM aM1 aM2 aM3 aM4 aM6 aM8 aM9 aM10 aM11 aM12 aM13 aM15 _ N vmN vmR vmBN vmHN_b34 vmL vmLo vmHi vmC vmZ vmB vmT_b34 vmM_b34 vmK_b34 vmF_b34 vmX_b34 vmH_b34 vmRow  _ hw) rfl hl.1 rfl (Nat.le_of_ble_eq_true rfl) dX5_spread_42 ⟨Nat.le_of_ble_eq_true rfl, Nat.le_of_ble_eq_true rfl⟩ (fun r_11 u_ H locs hw hP hD hS => ?_)
        obtain ⟨vmHN_12, vmH_13⟩ := u_
        replace hP : va_P G vwCl (wdM cI cJ cZ aM aM1 aM2 aM3 aM4 aM6 aM8 aM9 aM10 aM11 aM12 aM13 aM15 vmN vmR vmBN vmHN_12 vmL vmLo vmHi vmC vmZ vmB vmT_b34 vmM_b34 vmK_b34 vmF_b34 vmX_b34 vmH_13 vmRow) H := hP.sub [0, 1, 2, 3, 4, 5, 6, 7, 8, 9, 10, 11, 12] rfl
        replace hD : va_D A (wdM cI cJ cZ aM aM1 aM2 aM3 aM4 aM6 aM8 aM9 aM10 aM11 aM12 aM13 aM15 vmN vmR vmBN vmHN_12 vmL vmLo vmHi vmC vmZ vmB vmT_b34 vmM_b34 vmK_b34 vmF_b34 vmX_b34 vmH_13 vmRow) := hD.sub [0, 1, 2, 3, 4, 5, 6, 7, 8, 9, 10, 11, 12] (by decide) rfl
        refine lv_istore_n (lv' := [(2, .int r_11), (0, .ref aM)]) hx hb dX5_spread_45 rfl hl (by decide) rfl (fun ls hl => ?_)
        refine lv_aload_n hx hb dX5_spread_46 rfl (lv_at hl 1 rfl) ?_
        refine va_get (D := G) (ci := 5) (v := .ref aM11) (C := RX5) (T := TX5) (N := 17) hx hb hts (fun _ h => List.mem_cons_of_mem _ (List.mem_append_right _ h)) hown hK hP 0 rfl rfl 11 (by decide) (hts _ (List.mem_of_getElem? (i := 1) rfl)) (fun _ h9 => h9) rfl dX5_spread_47 ?_
        refine lv_aload_n hx hb dX5_spread_50 rfl (lv_at hl 1 rfl) ?_
        refine lv_iload_n hx hb dX5_spread_51 rfl (lv_at hl 0 rfl) ?_
        refine kc_Vi (As := [.int r_11]) (rest := [.ref aM11]) (wc := wdM cI cJ cZ aM aM1 aM2 aM3 aM4 aM6 aM8 aM9 aM10 aM11 aM12 aM13 aM15 vmN vmR vmBN vmHN_12 vmL vmLo vmHi vmC vmZ vmB vmT_b34 vmM_b34 vmK_b34 vmF_b34 vmX_b34 vmH_13 vmRow) (wr := []) ⟨hx, hb, hml, hown, hts⟩ (cwV 1 hts gX5_spread_X5_start rfl rfl rfl (by decide +kernel) ⟨Nat.le_of_ble_eq_true rfl, Nat.le_of_ble_eq_true rfl⟩) hK hN hA hP hD hS [0, 1, 2, 3, 4, 5, 6, 7, 8, 9, 10, 11, 12] [] rfl rfl (by decide) (by decide) (by decide) 0 rfl rfl (k_X5_start l G cI cJ cZ aM aM1 aM2 aM3 aM4 aM6 aM8 aM9 aM10 aM11 aM12 aM13 aM15 _ N vmN vmR vmBN vmHN_12 vmL vmLo vmHi vmC vmZ vmB vmT_b34 vmM_b34 vmK_b34 vmF_b34 vmX_b34 vmH_13 vmRow r_11 _ hw) rfl hl.1 rfl (Nat.le_of_ble_eq_true rfl) dX5_spread_52 ⟨Nat.le_of_ble_eq_true rfl, Nat.le_of_ble_eq_true rfl⟩ (fun r_14 u_ H locs hw hP hD hS => ?_)
        replace hP : va_P G vwCl (wdM cI cJ cZ aM aM1 aM2 aM3 aM4 aM6 aM8 aM9 aM10 aM11 aM12 aM13 aM15 vmN vmR vmBN vmHN_12 vmL vmLo vmHi vmC vmZ vmB vmT_b34 vmM_b34 vmK_b34 vmF_b34 vmX_b34 vmH_13 vmRow) H := hP.sub [0, 1, 2, 3, 4, 5, 6, 7, 8, 9, 10, 11, 12] rfl
        replace hD : va_D A (wdM cI cJ cZ aM aM1 aM2 aM3 aM4 aM6 aM8 aM9 aM10 aM11 aM12 aM13 aM15 vmN vmR vmBN vmHN_12 vmL vmLo vmHi vmC vmZ vmB vmT_b34 vmM_b34 vmK_b34 vmF_b34 vmX_b34 vmH_13 vmRow) := hD.sub [0, 1, 2, 3, 4, 5, 6, 7, 8, 9, 10, 11, 12] (by decide) rfl
        have h_15 := hw.1
        replace hw := hw.2
        refine va_iald hx hb hK hP 9 0 rfl rfl h_15 dX5_spread_55 ?_
        refine lv_topi (fun x3_16 e_17 => ?_)
        replace hw := hw x3_16 e_17
        refine lv_istore_n (lv' := [(3, .int x3_16), (2, .int r_11), (0, .ref aM)]) hx hb dX5_spread_56 rfl hl (by decide) rfl (fun ls hl => ?_)
        replace hl : lv_has ls 5 [(0, .ref aM), (2, .int r_11), (3, .int x3_16)] := lv_sub hl [2, 1, 0] rfl
        exact b57 N vmHN_12 vmT_b34 vmM_b34 vmK_b34 vmF_b34 vmX_b34 vmH_13 r_11 x3_16 _ _ _ hw hP hD hS hl
  have b11 : ∀ (n11 : Nat) (vmHN_b11 : Int32) (vmT_b11 : Nat → Int64) (vmM_b11 : Nat → Int32) (vmK_b11 : Nat → Int32) (vmF_b11 : Nat → Int32) (vmX_b11 : Nat → Int32) (vmH_b11 : Nat → Int32) (x2_b11 : Int32) (H : Heap) (locs : List Loc) (ls : Array Slot), w_X5_spread_b11 N vmBN vmLo vmHi vmC vmB post n11 vmHN_b11 vmT_b11 vmM_b11 vmK_b11 vmF_b11 vmX_b11 vmH_b11 x2_b11 → va_P G vwCl (wdM cI cJ cZ aM aM1 aM2 aM3 aM4 aM6 aM8 aM9 aM10 aM11 aM12 aM13 aM15 vmN vmR vmBN vmHN_b11 vmL vmLo vmHi vmC vmZ vmB vmT_b11 vmM_b11 vmK_b11 vmF_b11 vmX_b11 vmH_b11 vmRow) H → va_D A (wdM cI cJ cZ aM aM1 aM2 aM3 aM4 aM6 aM8 aM9 aM10 aM11 aM12 aM13 aM15 vmN vmR vmBN vmHN_b11 vmL vmLo vmHi vmC vmZ vmB vmT_b11 vmM_b11 vmK_b11 vmF_b11 vmX_b11 vmH_b11 vmRow) → va_S A s.heap H locs → lv_has ls 5 [(0, .ref aM), (2, .int x2_b11)] → W p l e rm_X5_spread s m ([.ref aM, .int x1] : List Value).toArray below meth c H locs 0 0 Q (F0 m 11 ls []) := by
    intro n11
    induction n11 with
    | zero => intro vmHN_b11 vmT_b11 vmM_b11 vmK_b11 vmF_b11 vmX_b11 vmH_b11 x2_b11 H locs ls hw; exact hw.elim
    | succ n11 ih11 =>
      intro vmHN_b11 vmT_b11 vmM_b11 vmK_b11 vmF_b11 vmX_b11 vmH_b11 x2_b11 H locs ls hw hP hD hS hl
      replace hw : w_X5_spread_b11_B N vmBN vmLo vmHi vmC vmB post (w_X5_spread_b11 N vmBN vmLo vmHi vmC vmB post n11) vmHN_b11 vmT_b11 vmM_b11 vmK_b11 vmF_b11 vmX_b11 vmH_b11 x2_b11 := hw
      unfold w_X5_spread_b11_B at hw
      refine lv_iload_n hx hb dX5_spread_11 rfl (lv_at hl 1 rfl) ?_
      refine lv_if_lt (tgt := 34) hx hb dX5_spread_12 (by decide) (fun c_9 => ?_) (fun c_9 => ?_)
      · replace hw := hw.1 c_9
        replace hl : lv_has ls 5 [(0, .ref aM)] := lv_sub hl [0] rfl
        exact b34 N vmHN_b11 vmT_b11 vmM_b11 vmK_b11 vmF_b11 vmX_b11 vmH_b11 _ _ _ hw hP hD hS hl
      · replace hw := hw.2 c_9
        refine lv_aload_n hx hb dX5_spread_15 rfl (lv_at hl 0 rfl) ?_
        refine lv_iload_n hx hb dX5_spread_16 rfl (lv_at hl 1 rfl) ?_
        refine lv_iconst (v := (1 : Int32)) hx hb dX5_spread_17 (by decide) ?_
        refine lv_ixor hx hb dX5_spread_18 ?_
        refine lv_lconst (v := (0 : Int64)) hx hb dX5_spread_19 (by decide) ?_
        refine lv_iconst (v := (0 : Int32)) hx hb dX5_spread_20 (by decide) ?_
        refine kc_Vv (As := [.int (x2_b11 ^^^ (1 : Int32)), .long (0 : Int64), .int (0 : Int32)]) (rest := []) (wc := wdM cI cJ cZ aM aM1 aM2 aM3 aM4 aM6 aM8 aM9 aM10 aM11 aM12 aM13 aM15 vmN vmR vmBN vmHN_b11 vmL vmLo vmHi vmC vmZ vmB vmT_b11 vmM_b11 vmK_b11 vmF_b11 vmX_b11 vmH_b11 vmRow) (wr := []) ⟨hx, hb, hml, hown, hts⟩ (cwV 3 hts gX5_spread_X5_known rfl rfl rfl (by decide +kernel) ⟨Nat.le_of_ble_eq_true rfl, Nat.le_of_ble_eq_true rfl⟩) hK hN hA hP hD hS [0, 1, 2, 3, 4, 5, 6, 7, 8, 9, 10, 11, 12] [] rfl rfl (by decide) (by decide) (by decide) 0 rfl rfl (k_X5_known l G cI cJ cZ aM aM1 aM2 aM3 aM4 aM6 aM8 aM9 aM10 aM11 aM12 aM13 aM15 _ N vmN vmR vmBN vmHN_b11 vmL vmLo vmHi vmC vmZ vmB vmT_b11 vmM_b11 vmK_b11 vmF_b11 vmX_b11 vmH_b11 vmRow (x2_b11 ^^^ (1 : Int32)) (0 : Int64) (0 : Int32) _ hw) rfl hl.1 rfl (Nat.le_of_ble_eq_true rfl) dX5_spread_21 ⟨Nat.le_of_ble_eq_true rfl, Nat.le_of_ble_eq_true rfl⟩ (fun u_ H locs hw hP hD hS => ?_)
        obtain ⟨vmHN_45, vmT_46, vmM_47, vmK_48, vmH_49⟩ := u_
        replace hP : va_P G vwCl (wdM cI cJ cZ aM aM1 aM2 aM3 aM4 aM6 aM8 aM9 aM10 aM11 aM12 aM13 aM15 vmN vmR vmBN vmHN_45 vmL vmLo vmHi vmC vmZ vmB vmT_46 vmM_47 vmK_48 vmF_b11 vmX_b11 vmH_49 vmRow) H := hP.sub [0, 1, 2, 3, 4, 5, 6, 7, 8, 9, 10, 11, 12] rfl
        replace hD : va_D A (wdM cI cJ cZ aM aM1 aM2 aM3 aM4 aM6 aM8 aM9 aM10 aM11 aM12 aM13 aM15 vmN vmR vmBN vmHN_45 vmL vmLo vmHi vmC vmZ vmB vmT_46 vmM_47 vmK_48 vmF_b11 vmX_b11 vmH_49 vmRow) := hD.sub [0, 1, 2, 3, 4, 5, 6, 7, 8, 9, 10, 11, 12] (by decide) rfl
        refine lv_aload_n hx hb dX5_spread_24 rfl (lv_at hl 0 rfl) ?_
        refine va_get (D := G) (ci := 5) (v := .ref aM12) (C := RX5) (T := TX5) (N := 17) hx hb hts (fun _ h => List.mem_cons_of_mem _ (List.mem_append_right _ h)) hown hK hP 0 rfl rfl 12 (by decide) (hts _ (List.mem_of_getElem? (i := 2) rfl)) (fun _ h9 => h9) rfl dX5_spread_25 ?_
        refine lv_iload_n hx hb dX5_spread_28 rfl (lv_at hl 1 rfl) ?_
        have h_50 := hw.1
        replace hw := hw.2
        refine va_iald hx hb hK hP 10 0 rfl rfl h_50 dX5_spread_29 ?_
        refine lv_topi (fun x2_51 e_52 => ?_)
        replace hw := hw x2_51 e_52
        refine lv_istore_n (lv' := [(2, .int x2_51), (0, .ref aM)]) hx hb dX5_spread_30 rfl hl (by decide) rfl (fun ls hl => ?_)
        refine lv_goto (tgt := 11) hx hb dX5_spread_31 (by decide) ?_
        replace hl : lv_has ls 5 [(0, .ref aM), (2, .int x2_51)] := lv_sub hl [1, 0] rfl
        exact ih11 vmHN_45 vmT_46 vmM_47 vmK_48 vmF_b11 vmX_b11 vmH_49 x2_51 _ _ _ hw hP hD hS hl
  unfold w_X5_spread at hw
  refine lv_aload_n hx hb dX5_spread_0 rfl (lv_at hl 0 rfl) ?_
  refine kc_Vv (As := []) (rest := []) (wc := wdM cI cJ cZ aM aM1 aM2 aM3 aM4 aM6 aM8 aM9 aM10 aM11 aM12 aM13 aM15 vmN vmR vmBN vmHN vmL vmLo vmHi vmC vmZ vmB vmT vmM vmK vmF vmX vmH vmRow) (wr := []) ⟨hx, hb, hml, hown, hts⟩ (cwV 0 hts gX5_spread_X5_begin rfl rfl rfl (by decide +kernel) ⟨Nat.le_of_ble_eq_true rfl, Nat.le_of_ble_eq_true rfl⟩) hK hN hA hP hD hS [0, 1, 2, 3, 4, 5, 6, 7, 8, 9, 10, 11, 12] [] rfl rfl (by decide) (by decide) (by decide) 0 rfl rfl (k_X5_begin l G cI cJ cZ aM aM1 aM2 aM3 aM4 aM6 aM8 aM9 aM10 aM11 aM12 aM13 aM15 _ N vmN vmR vmBN vmHN vmL vmLo vmHi vmC vmZ vmB vmT vmM vmK vmF vmX vmH vmRow  _ hw) rfl hl.1 rfl (Nat.le_of_ble_eq_true rfl) dX5_spread_1 ⟨Nat.le_of_ble_eq_true rfl, Nat.le_of_ble_eq_true rfl⟩ (fun u_ H locs hw hP hD hS => ?_)
  obtain ⟨vmHN_2, vmK_3, vmF_4, vmX_5⟩ := u_
  replace hP : va_P G vwCl (wdM cI cJ cZ aM aM1 aM2 aM3 aM4 aM6 aM8 aM9 aM10 aM11 aM12 aM13 aM15 vmN vmR vmBN vmHN_2 vmL vmLo vmHi vmC vmZ vmB vmT vmM vmK_3 vmF_4 vmX_5 vmH vmRow) H := hP.sub [0, 1, 2, 3, 4, 5, 6, 7, 8, 9, 10, 11, 12] rfl
  replace hD : va_D A (wdM cI cJ cZ aM aM1 aM2 aM3 aM4 aM6 aM8 aM9 aM10 aM11 aM12 aM13 aM15 vmN vmR vmBN vmHN_2 vmL vmLo vmHi vmC vmZ vmB vmT vmM vmK_3 vmF_4 vmX_5 vmH vmRow) := hD.sub [0, 1, 2, 3, 4, 5, 6, 7, 8, 9, 10, 11, 12] (by decide) rfl
  refine lv_aload_n hx hb dX5_spread_4 rfl (lv_at hl 0 rfl) ?_
  refine va_get (D := G) (ci := 5) (v := .ref aM11) (C := RX5) (T := TX5) (N := 17) hx hb hts (fun _ h => List.mem_cons_of_mem _ (List.mem_append_right _ h)) hown hK hP 0 rfl rfl 11 (by decide) (hts _ (List.mem_of_getElem? (i := 1) rfl)) (fun _ h9 => h9) rfl dX5_spread_5 ?_
  refine lv_iload_n hx hb dX5_spread_8 rfl (lv_at hl 1 rfl) ?_
  have h_6 := hw.1
  replace hw := hw.2
  refine va_iald hx hb hK hP 9 0 rfl rfl h_6 dX5_spread_9 ?_
  refine lv_topi (fun x2_7 e_8 => ?_)
  replace hw := hw x2_7 e_8
  refine lv_istore_n (lv' := [(2, .int x2_7), (0, .ref aM), (1, .int x1)]) hx hb dX5_spread_10 rfl hl (by decide) rfl (fun ls hl => ?_)
  replace hl : lv_has ls 5 [(0, .ref aM), (2, .int x2_7)] := lv_sub hl [1, 0] rfl
  exact b11 N vmHN_2 vmT vmM vmK_3 vmF_4 vmX_5 vmH x2_7 _ _ _ hw hP hD hS hl
def w_X5_better (N : Nat) (vmLo : Nat → Int32) (vmHi : Nat → Int32) (vmT : Nat → Int64) (vmM : Nat → Int32) (vmK : Nat → Int32) (x1 : Int32) (x2 : Int32) (post : Int32 → Prop) : Prop :=
  vp_in x2 4000 ∧ ((¬ (vmK x2.toNatClampNeg) = (0 : Int32) → ((x1 < (0 : Int32) → post x2) ∧ (¬ (x1 < (0 : Int32)) → w_X5_isLess N vmT vmM x2 x1 (fun r_4 => ((r_4 = (0 : Int32) → w_X5_isLess N vmT vmM x1 x2 (fun r_6 => ((¬ r_6 = (0 : Int32) → post x1) ∧ (r_6 = (0 : Int32) → w_X5_end N vmLo vmHi x2 (fun r_8 => w_X5_end N vmLo vmHi x1 (fun r_9 => ((r_9 ≤ r_8 → post x1) ∧ (¬ (r_9 ≤ r_8) → post x2)))))))) ∧ (¬ (r_4 = (0 : Int32)) → post x2)))))) ∧ ((vmK x2.toNatClampNeg) = (0 : Int32) → post x1))
abbrev rm_X5_better : Room := { frames := 2, cells := 0, slots := 0, locals := 42 }
set_option maxHeartbeats 4000000 in
set_option maxRecDepth 100000 in
theorem k_X5_better (l : Launch) (G : va_G) (cI cJ cZ : ClassId) (aM aM1 aM2 aM3 aM4 aM6 aM8 aM9 aM10 aM11 aM12 aM13 aM15 : Nat) (sz N : Nat) (vmN : Int32) (vmR : Int32) (vmBN : Int32) (vmHN : Int32) (vmL : Int32) (vmLo : Nat → Int32) (vmHi : Nat → Int32) (vmC : Nat → Int32) (vmZ : Nat → Int32) (vmB : Nat → Int32) (vmT : Nat → Int64) (vmM : Nat → Int32) (vmK : Nat → Int32) (vmF : Nat → Int32) (vmX : Nat → Int32) (vmH : Nat → Int32) (vmRow : Nat → Int32) (x1 : Int32) (x2 : Int32) (post : Int32 → Prop) (hw : w_X5_better N vmLo vmHi vmT vmM vmK x1 x2 post) : Met l yX5_better wsX5_better rm_X5_better (kPc G (tyL cI cJ cZ) [.ref aM, .int x1, .int x2] sz (wdM cI cJ cZ aM aM1 aM2 aM3 aM4 aM6 aM8 aM9 aM10 aM11 aM12 aM13 aM15 vmN vmR vmBN vmHN vmL vmLo vmHi vmC vmZ vmB vmT vmM vmK vmF vmX vmH vmRow)) (va_Qi (fun (r : Int32) (u : Unit) => post r ) (kB G (tyL cI cJ cZ) (va_A (wdM cI cJ cZ aM aM1 aM2 aM3 aM4 aM6 aM8 aM9 aM10 aM11 aM12 aM13 aM15 vmN vmR vmBN vmHN vmL vmLo vmHi vmC vmZ vmB vmT vmM vmK vmF vmX vmH vmRow) sz) (fun (u : Unit) => wdM cI cJ cZ aM aM1 aM2 aM3 aM4 aM6 aM8 aM9 aM10 aM11 aM12 aM13 aM15 vmN vmR vmBN vmHN vmL vmLo vmHi vmC vmZ vmB vmT vmM vmK vmF vmX vmH vmRow)) (va_A (wdM cI cJ cZ aM aM1 aM2 aM3 aM4 aM6 aM8 aM9 aM10 aM11 aM12 aM13 aM15 vmN vmR vmBN vmHN vmL vmLo vmHi vmC vmZ vmB vmT vmM vmK vmF vmX vmH vmRow) sz)) 0 0 (va_A (wdM cI cJ cZ aM aM1 aM2 aM3 aM4 aM6 aM8 aM9 aM10 aM11 aM12 aM13 aM15 vmN vmR vmBN vmHN vmL vmLo vmHi vmC vmZ vmB vmT vmM vmK vmF vmX vmH vmRow) sz) := by
  refine km_i (cc := cX5_better) (maxL := 3) (by decide) rfl (Nat.le_of_ble_eq_true rfl) ?_
  intro p e s m below meth c A Q ls hx hb hml hts hown hnm hK hN hA hP hD hS hl hret
  replace hown : s.vm.findClass RX5 = some m.cls := hown
  replace hl : lv_has ls 3 [(0, .ref aM), (1, .int x1), (2, .int x2)] := hl
  unfold w_X5_better at hw
  refine lv_aload_n hx hb dX5_better_0 rfl (lv_at hl 0 rfl) ?_
  refine va_get (D := G) (ci := 5) (v := .ref aM10) (C := RX5) (T := TX5) (N := 17) hx hb hts (fun _ h => List.mem_cons_of_mem _ (List.mem_append_right _ h)) hown hK hP 0 rfl rfl 10 (by decide) (hts _ (List.mem_of_getElem? (i := 1) rfl)) (fun _ h9 => h9) rfl dX5_better_1 ?_
  refine lv_iload_n hx hb dX5_better_4 rfl (lv_at hl 2 rfl) ?_
  have h_1 := hw.1
  replace hw := hw.2
  refine va_zald hx hb hK hP 8 2 rfl rfl h_1 dX5_better_5 ?_
  refine lv_if_ne (tgt := 11) hx hb dX5_better_6 (by decide) (fun c_2 => ?_) (fun c_2 => ?_)
  · replace hw := hw.1 c_2
    refine lv_iload_n hx hb dX5_better_11 rfl (lv_at hl 1 rfl) ?_
    refine lv_if_lt (tgt := 24) hx hb dX5_better_12 (by decide) (fun c_3 => ?_) (fun c_3 => ?_)
    · replace hw := hw.1 c_3
      refine lv_iload_n hx hb dX5_better_24 rfl (lv_at hl 2 rfl) ?_
      exact hret 25 x2 () _ _ _ dX5_better_25 hw hP hD hS
    · replace hw := hw.2 c_3
      refine lv_aload_n hx hb dX5_better_15 rfl (lv_at hl 0 rfl) ?_
      refine lv_iload_n hx hb dX5_better_16 rfl (lv_at hl 2 rfl) ?_
      refine lv_iload_n hx hb dX5_better_17 rfl (lv_at hl 1 rfl) ?_
      refine kc_Vi (As := [.int x2, .int x1]) (rest := []) (wc := wdM cI cJ cZ aM aM1 aM2 aM3 aM4 aM6 aM8 aM9 aM10 aM11 aM12 aM13 aM15 vmN vmR vmBN vmHN vmL vmLo vmHi vmC vmZ vmB vmT vmM vmK vmF vmX vmH vmRow) (wr := []) ⟨hx, hb, hml, hown, hts⟩ (cwV 2 hts gX5_better_X5_isLess rfl rfl rfl (by decide +kernel) ⟨Nat.le_of_ble_eq_true rfl, Nat.le_of_ble_eq_true rfl⟩) hK hN hA hP hD hS [0, 1, 2, 3, 4, 5, 6, 7, 8, 9, 10, 11, 12] [] rfl rfl (by decide) (by decide) (by decide) 0 rfl rfl (k_X5_isLess l G cI cJ cZ aM aM1 aM2 aM3 aM4 aM6 aM8 aM9 aM10 aM11 aM12 aM13 aM15 _ N vmN vmR vmBN vmHN vmL vmLo vmHi vmC vmZ vmB vmT vmM vmK vmF vmX vmH vmRow x2 x1 _ hw) rfl hl.1 rfl (Nat.le_of_ble_eq_true rfl) dX5_better_18 ⟨Nat.le_of_ble_eq_true rfl, Nat.le_of_ble_eq_true rfl⟩ (fun r_4 u_ H locs hw hP hD hS => ?_)
      replace hP : va_P G vwCl (wdM cI cJ cZ aM aM1 aM2 aM3 aM4 aM6 aM8 aM9 aM10 aM11 aM12 aM13 aM15 vmN vmR vmBN vmHN vmL vmLo vmHi vmC vmZ vmB vmT vmM vmK vmF vmX vmH vmRow) H := hP.sub [0, 1, 2, 3, 4, 5, 6, 7, 8, 9, 10, 11, 12] rfl
      replace hD : va_D A (wdM cI cJ cZ aM aM1 aM2 aM3 aM4 aM6 aM8 aM9 aM10 aM11 aM12 aM13 aM15 vmN vmR vmBN vmHN vmL vmLo vmHi vmC vmZ vmB vmT vmM vmK vmF vmX vmH vmRow) := hD.sub [0, 1, 2, 3, 4, 5, 6, 7, 8, 9, 10, 11, 12] (by decide) rfl
      refine lv_if_eq (tgt := 26) hx hb dX5_better_21 (by decide) (fun c_5 => ?_) (fun c_5 => ?_)
      · replace hw := hw.1 c_5
        refine lv_aload_n hx hb dX5_better_26 rfl (lv_at hl 0 rfl) ?_
        refine lv_iload_n hx hb dX5_better_27 rfl (lv_at hl 1 rfl) ?_
        refine lv_iload_n hx hb dX5_better_28 rfl (lv_at hl 2 rfl) ?_
        refine kc_Vi (As := [.int x1, .int x2]) (rest := []) (wc := wdM cI cJ cZ aM aM1 aM2 aM3 aM4 aM6 aM8 aM9 aM10 aM11 aM12 aM13 aM15 vmN vmR vmBN vmHN vmL vmLo vmHi vmC vmZ vmB vmT vmM vmK vmF vmX vmH vmRow) (wr := []) ⟨hx, hb, hml, hown, hts⟩ (cwV 2 hts gX5_better_X5_isLess rfl rfl rfl (by decide +kernel) ⟨Nat.le_of_ble_eq_true rfl, Nat.le_of_ble_eq_true rfl⟩) hK hN hA hP hD hS [0, 1, 2, 3, 4, 5, 6, 7, 8, 9, 10, 11, 12] [] rfl rfl (by decide) (by decide) (by decide) 0 rfl rfl (k_X5_isLess l G cI cJ cZ aM aM1 aM2 aM3 aM4 aM6 aM8 aM9 aM10 aM11 aM12 aM13 aM15 _ N vmN vmR vmBN vmHN vmL vmLo vmHi vmC vmZ vmB vmT vmM vmK vmF vmX vmH vmRow x1 x2 _ hw) rfl hl.1 rfl (Nat.le_of_ble_eq_true rfl) dX5_better_29 ⟨Nat.le_of_ble_eq_true rfl, Nat.le_of_ble_eq_true rfl⟩ (fun r_6 u_ H locs hw hP hD hS => ?_)
        replace hP : va_P G vwCl (wdM cI cJ cZ aM aM1 aM2 aM3 aM4 aM6 aM8 aM9 aM10 aM11 aM12 aM13 aM15 vmN vmR vmBN vmHN vmL vmLo vmHi vmC vmZ vmB vmT vmM vmK vmF vmX vmH vmRow) H := hP.sub [0, 1, 2, 3, 4, 5, 6, 7, 8, 9, 10, 11, 12] rfl
        replace hD : va_D A (wdM cI cJ cZ aM aM1 aM2 aM3 aM4 aM6 aM8 aM9 aM10 aM11 aM12 aM13 aM15 vmN vmR vmBN vmHN vmL vmLo vmHi vmC vmZ vmB vmT vmM vmK vmF vmX vmH vmRow) := hD.sub [0, 1, 2, 3, 4, 5, 6, 7, 8, 9, 10, 11, 12] (by decide) rfl
        refine lv_if_ne (tgt := 52) hx hb dX5_better_32 (by decide) (fun c_7 => ?_) (fun c_7 => ?_)
        · replace hw := hw.1 c_7
          refine lv_iload_n hx hb dX5_better_52 rfl (lv_at hl 1 rfl) ?_
          exact hret 53 x1 () _ _ _ dX5_better_53 hw hP hD hS
        · replace hw := hw.2 c_7
          refine lv_aload_n hx hb dX5_better_35 rfl (lv_at hl 0 rfl) ?_
          refine lv_iload_n hx hb dX5_better_36 rfl (lv_at hl 2 rfl) ?_
          refine kc_Vi (As := [.int x2]) (rest := []) (wc := wdM cI cJ cZ aM aM1 aM2 aM3 aM4 aM6 aM8 aM9 aM10 aM11 aM12 aM13 aM15 vmN vmR vmBN vmHN vmL vmLo vmHi vmC vmZ vmB vmT vmM vmK vmF vmX vmH vmRow) (wr := []) ⟨hx, hb, hml, hown, hts⟩ (cwV 1 hts gX5_better_X5_end rfl rfl rfl (by decide +kernel) ⟨Nat.le_of_ble_eq_true rfl, Nat.le_of_ble_eq_true rfl⟩) hK hN hA hP hD hS [0, 1, 2, 3, 4, 5, 6, 7, 8, 9, 10, 11, 12] [] rfl rfl (by decide) (by decide) (by decide) 0 rfl rfl (k_X5_end l G cI cJ cZ aM aM1 aM2 aM3 aM4 aM6 aM8 aM9 aM10 aM11 aM12 aM13 aM15 _ N vmN vmR vmBN vmHN vmL vmLo vmHi vmC vmZ vmB vmT vmM vmK vmF vmX vmH vmRow x2 _ hw) rfl hl.1 rfl (Nat.le_of_ble_eq_true rfl) dX5_better_37 ⟨Nat.le_of_ble_eq_true rfl, Nat.le_of_ble_eq_true rfl⟩ (fun r_8 u_ H locs hw hP hD hS => ?_)
          replace hP : va_P G vwCl (wdM cI cJ cZ aM aM1 aM2 aM3 aM4 aM6 aM8 aM9 aM10 aM11 aM12 aM13 aM15 vmN vmR vmBN vmHN vmL vmLo vmHi vmC vmZ vmB vmT vmM vmK vmF vmX vmH vmRow) H := hP.sub [0, 1, 2, 3, 4, 5, 6, 7, 8, 9, 10, 11, 12] rfl
          replace hD : va_D A (wdM cI cJ cZ aM aM1 aM2 aM3 aM4 aM6 aM8 aM9 aM10 aM11 aM12 aM13 aM15 vmN vmR vmBN vmHN vmL vmLo vmHi vmC vmZ vmB vmT vmM vmK vmF vmX vmH vmRow) := hD.sub [0, 1, 2, 3, 4, 5, 6, 7, 8, 9, 10, 11, 12] (by decide) rfl
          refine lv_aload_n hx hb dX5_better_40 rfl (lv_at hl 0 rfl) ?_
          refine lv_iload_n hx hb dX5_better_41 rfl (lv_at hl 1 rfl) ?_
          refine kc_Vi (As := [.int x1]) (rest := [.int r_8]) (wc := wdM cI cJ cZ aM aM1 aM2 aM3 aM4 aM6 aM8 aM9 aM10 aM11 aM12 aM13 aM15 vmN vmR vmBN vmHN vmL vmLo vmHi vmC vmZ vmB vmT vmM vmK vmF vmX vmH vmRow) (wr := []) ⟨hx, hb, hml, hown, hts⟩ (cwV 1 hts gX5_better_X5_end rfl rfl rfl (by decide +kernel) ⟨Nat.le_of_ble_eq_true rfl, Nat.le_of_ble_eq_true rfl⟩) hK hN hA hP hD hS [0, 1, 2, 3, 4, 5, 6, 7, 8, 9, 10, 11, 12] [] rfl rfl (by decide) (by decide) (by decide) 0 rfl rfl (k_X5_end l G cI cJ cZ aM aM1 aM2 aM3 aM4 aM6 aM8 aM9 aM10 aM11 aM12 aM13 aM15 _ N vmN vmR vmBN vmHN vmL vmLo vmHi vmC vmZ vmB vmT vmM vmK vmF vmX vmH vmRow x1 _ hw) rfl hl.1 rfl (Nat.le_of_ble_eq_true rfl) dX5_better_42 ⟨Nat.le_of_ble_eq_true rfl, Nat.le_of_ble_eq_true rfl⟩ (fun r_9 u_ H locs hw hP hD hS => ?_)
          replace hP : va_P G vwCl (wdM cI cJ cZ aM aM1 aM2 aM3 aM4 aM6 aM8 aM9 aM10 aM11 aM12 aM13 aM15 vmN vmR vmBN vmHN vmL vmLo vmHi vmC vmZ vmB vmT vmM vmK vmF vmX vmH vmRow) H := hP.sub [0, 1, 2, 3, 4, 5, 6, 7, 8, 9, 10, 11, 12] rfl
          replace hD : va_D A (wdM cI cJ cZ aM aM1 aM2 aM3 aM4 aM6 aM8 aM9 aM10 aM11 aM12 aM13 aM15 vmN vmR vmBN vmHN vmL vmLo vmHi vmC vmZ vmB vmT vmM vmK vmF vmX vmH vmRow) := hD.sub [0, 1, 2, 3, 4, 5, 6, 7, 8, 9, 10, 11, 12] (by decide) rfl
          refine lv_icmp_ge (tgt := 52) hx hb dX5_better_45 (by decide) (fun c_10 => ?_) (fun c_10 => ?_)
          · replace hw := hw.1 c_10
            refine lv_iload_n hx hb dX5_better_52 rfl (lv_at hl 1 rfl) ?_
            exact hret 53 x1 () _ _ _ dX5_better_53 hw hP hD hS
          · replace hw := hw.2 c_10
            refine lv_iload_n hx hb dX5_better_48 rfl (lv_at hl 2 rfl) ?_
            refine lv_goto (tgt := 53) hx hb dX5_better_49 (by decide) ?_
            exact hret 53 x2 () _ _ _ dX5_better_53 hw hP hD hS
      · replace hw := hw.2 c_5
        refine lv_iload_n hx hb dX5_better_24 rfl (lv_at hl 2 rfl) ?_
        exact hret 25 x2 () _ _ _ dX5_better_25 hw hP hD hS
  · replace hw := hw.2 c_2
    refine lv_iload_n hx hb dX5_better_9 rfl (lv_at hl 1 rfl) ?_
    exact hret 10 x1 () _ _ _ dX5_better_10 hw hP hD hS
