def w_X5_within_b138_B (N : Nat) (vmBN : Int32) (vmLo : Nat → Int32) (vmHi : Nat → Int32) (vmC : Nat → Int32) (vmB : Nat → Int32) (post : Int32 → Int32 → (Nat → Int64) → (Nat → Int32) → (Nat → Int32) → (Nat → Int32) → (Nat → Int32) → (Nat → Int32) → Prop) (k72 : Int32 → (Nat → Int64) → (Nat → Int32) → (Nat → Int32) → (Nat → Int32) → (Nat → Int32) → (Nat → Int32) → (Nat → Int32) → Int32 → Prop) (k138 : Int32 → (Nat → Int64) → (Nat → Int32) → (Nat → Int32) → (Nat → Int32) → (Nat → Int32) → (Nat → Int32) → (Nat → Int32) → Int32 → Int32 → Int32 → Prop) (vmHN_b138 : Int32) (vmT_b138 : Nat → Int64) (vmM_b138 : Nat → Int32) (vmK_b138 : Nat → Int32) (vmF_b138 : Nat → Int32) (vmX_b138 : Nat → Int32) (vmH_b138 : Nat → Int32) (vN_b138 : Nat → Int32) (x5_b138 : Int32) (x6_b138 : Int32) (x7_b138 : Int32) : Prop :=
  ((x7_b138 < (0 : Int32) → k72 vmHN_b138 vmT_b138 vmM_b138 vmK_b138 vmF_b138 vmX_b138 vmH_b138 vN_b138 x5_b138) ∧ (¬ (x7_b138 < (0 : Int32)) → vp_in x7_b138 4000 ∧ ((¬ (vmK_b138 x7_b138.toNatClampNeg) = (0 : Int32) → ∀ x7_33 : Int32, x7_33 = (vmX_b138 x7_b138.toNatClampNeg) → k138 vmHN_b138 vmT_b138 vmM_b138 vmK_b138 vmF_b138 vmX_b138 vmH_b138 vN_b138 x5_b138 x6_b138 x7_33) ∧ ((vmK_b138 x7_b138.toNatClampNeg) = (0 : Int32) → w_X5_start N vmLo vmHi x6_b138 (fun r_35 => w_X5_start N vmLo vmHi x7_b138 (fun r_36 => w_X5_end N vmLo vmHi x7_b138 (fun r_37 => w_X5_barAt N vmBN vmB r_35 r_36 r_37 (fun r_38 => (((0 : Int32) ≤ r_38 → ∀ x7_40 : Int32, x7_40 = (vmX_b138 x7_b138.toNatClampNeg) → k138 vmHN_b138 vmT_b138 vmM_b138 vmK_b138 vmF_b138 vmX_b138 vmH_b138 vN_b138 x5_b138 x6_b138 x7_40) ∧ (¬ ((0 : Int32) ≤ r_38) → vp_in x6_b138 4000 ∧ w_X5_known N vmHN_b138 vmC vmT_b138 vmM_b138 vmK_b138 vmH_b138 x7_b138 (vmT_b138 x6_b138.toNatClampNeg) (vmM_b138 x6_b138.toNatClampNeg) (fun vmHN_44 vmT_45 vmM_46 vmK_47 vmH_48 => ∀ x7_49 : Int32, x7_49 = (vmX_b138 x7_b138.toNatClampNeg) → k138 vmHN_44 vmT_45 vmM_46 vmK_47 vmF_b138 vmX_b138 vmH_48 vN_b138 x5_b138 x6_b138 x7_49)))))))))))
def w_X5_within_b138 (N : Nat) (vmBN : Int32) (vmLo : Nat → Int32) (vmHi : Nat → Int32) (vmC : Nat → Int32) (vmB : Nat → Int32) (post : Int32 → Int32 → (Nat → Int64) → (Nat → Int32) → (Nat → Int32) → (Nat → Int32) → (Nat → Int32) → (Nat → Int32) → Prop) (k72 : Int32 → (Nat → Int64) → (Nat → Int32) → (Nat → Int32) → (Nat → Int32) → (Nat → Int32) → (Nat → Int32) → (Nat → Int32) → Int32 → Prop) : Nat → Int32 → (Nat → Int64) → (Nat → Int32) → (Nat → Int32) → (Nat → Int32) → (Nat → Int32) → (Nat → Int32) → (Nat → Int32) → Int32 → Int32 → Int32 → Prop
  | 0, _, _, _, _, _, _, _, _, _, _, _ => False
  | n + 1, vmHN_b138, vmT_b138, vmM_b138, vmK_b138, vmF_b138, vmX_b138, vmH_b138, vN_b138, x5_b138, x6_b138, x7_b138 => w_X5_within_b138_B N vmBN vmLo vmHi vmC vmB post k72 (w_X5_within_b138 N vmBN vmLo vmHi vmC vmB post k72 n) vmHN_b138 vmT_b138 vmM_b138 vmK_b138 vmF_b138 vmX_b138 vmH_b138 vN_b138 x5_b138 x6_b138 x7_b138
def w_X5_within_b115 (N : Nat) (vmN : Int32) (vmBN : Int32) (vmLo : Nat → Int32) (vmHi : Nat → Int32) (vmC : Nat → Int32) (vmB : Nat → Int32) (post : Int32 → Int32 → (Nat → Int64) → (Nat → Int32) → (Nat → Int32) → (Nat → Int32) → (Nat → Int32) → (Nat → Int32) → Prop) (k72 : Int32 → (Nat → Int64) → (Nat → Int32) → (Nat → Int32) → (Nat → Int32) → (Nat → Int32) → (Nat → Int32) → (Nat → Int32) → Int32 → Prop) (vmHN_b115 : Int32) (vmT_b115 : Nat → Int64) (vmM_b115 : Nat → Int32) (vmK_b115 : Nat → Int32) (vmF_b115 : Nat → Int32) (vmX_b115 : Nat → Int32) (vmH_b115 : Nat → Int32) (vN_b115 : Nat → Int32) (x5_b115 : Int32) (x6_b115 : Int32) : Prop :=
  w_X5_end N vmLo vmHi x6_b115 (fun r_24 => vp_in r_24 (vmN.toNatClampNeg) ∧ w_X5_end N vmLo vmHi x6_b115 (fun r_26 => vp_in r_26 300 ∧ ∀ x7_28 : Int32, x7_28 = (vmF_b115 r_26.toNatClampNeg) → w_X5_within_b138 N vmBN vmLo vmHi vmC vmB post k72 N vmHN_b115 vmT_b115 vmM_b115 vmK_b115 vmF_b115 vmX_b115 vmH_b115 (upd vN_b115 r_24.toNatClampNeg (vp_nar .boolean (1 : Int32))) x5_b115 x6_b115 x7_28))
def w_X5_within_b72_B (N : Nat) (vmN : Int32) (vmBN : Int32) (vmLo : Nat → Int32) (vmHi : Nat → Int32) (vmC : Nat → Int32) (vmB : Nat → Int32) (x2 : Int64) (post : Int32 → Int32 → (Nat → Int64) → (Nat → Int32) → (Nat → Int32) → (Nat → Int32) → (Nat → Int32) → (Nat → Int32) → Prop) (k72 : Int32 → (Nat → Int64) → (Nat → Int32) → (Nat → Int32) → (Nat → Int32) → (Nat → Int32) → (Nat → Int32) → (Nat → Int32) → Int32 → Prop) (vmHN_b72 : Int32) (vmT_b72 : Nat → Int64) (vmM_b72 : Nat → Int32) (vmK_b72 : Nat → Int32) (vmF_b72 : Nat → Int32) (vmX_b72 : Nat → Int32) (vmH_b72 : Nat → Int32) (vN_b72 : Nat → Int32) (x5_b72 : Int32) : Prop :=
  ((vmHN_b72 ≤ (0 : Int32) → post x5_b72 vmHN_b72 vmT_b72 vmM_b72 vmK_b72 vmF_b72 vmX_b72 vmH_b72) ∧ (¬ (vmHN_b72 ≤ (0 : Int32)) → w_X5_pull N vmHN_b72 vmT_b72 vmM_b72 vmH_b72 (fun r_16 vmHN_17 vmH_18 => vp_in r_16 4000 ∧ (((lg_cmp (vmT_b72 r_16.toNatClampNeg) x2) ≤ (0 : Int32) → w_X5_end N vmLo vmHi r_16 (fun r_21 => vp_in r_21 (vmN.toNatClampNeg) ∧ ((¬ (vN_b72 r_21.toNatClampNeg) = (0 : Int32) → w_X5_within_b115 N vmN vmBN vmLo vmHi vmC vmB post k72 vmHN_17 vmT_b72 vmM_b72 vmK_b72 vmF_b72 vmX_b72 vmH_18 vN_b72 x5_b72 r_16) ∧ ((vN_b72 r_21.toNatClampNeg) = (0 : Int32) → ∀ x5_51 : Int32, x5_51 = x5_b72 + (1 : Int32) → w_X5_within_b115 N vmN vmBN vmLo vmHi vmC vmB post k72 vmHN_17 vmT_b72 vmM_b72 vmK_b72 vmF_b72 vmX_b72 vmH_18 vN_b72 x5_51 r_16)))) ∧ (¬ ((lg_cmp (vmT_b72 r_16.toNatClampNeg) x2) ≤ (0 : Int32)) → k72 vmHN_17 vmT_b72 vmM_b72 vmK_b72 vmF_b72 vmX_b72 vmH_18 vN_b72 x5_b72)))))
def w_X5_within_b72 (N : Nat) (vmN : Int32) (vmBN : Int32) (vmLo : Nat → Int32) (vmHi : Nat → Int32) (vmC : Nat → Int32) (vmB : Nat → Int32) (x2 : Int64) (post : Int32 → Int32 → (Nat → Int64) → (Nat → Int32) → (Nat → Int32) → (Nat → Int32) → (Nat → Int32) → (Nat → Int32) → Prop) : Nat → Int32 → (Nat → Int64) → (Nat → Int32) → (Nat → Int32) → (Nat → Int32) → (Nat → Int32) → (Nat → Int32) → (Nat → Int32) → Int32 → Prop
  | 0, _, _, _, _, _, _, _, _, _ => False
  | n + 1, vmHN_b72, vmT_b72, vmM_b72, vmK_b72, vmF_b72, vmX_b72, vmH_b72, vN_b72, x5_b72 => w_X5_within_b72_B N vmN vmBN vmLo vmHi vmC vmB x2 post (w_X5_within_b72 N vmN vmBN vmLo vmHi vmC vmB x2 post n) vmHN_b72 vmT_b72 vmM_b72 vmK_b72 vmF_b72 vmX_b72 vmH_b72 vN_b72 x5_b72
def w_X5_within_b47_B (N : Nat) (vmN : Int32) (vmBN : Int32) (vmLo : Nat → Int32) (vmHi : Nat → Int32) (vmC : Nat → Int32) (vmB : Nat → Int32) (x2 : Int64) (post : Int32 → Int32 → (Nat → Int64) → (Nat → Int32) → (Nat → Int32) → (Nat → Int32) → (Nat → Int32) → (Nat → Int32) → Prop) (k47 : Int32 → (Nat → Int64) → (Nat → Int32) → (Nat → Int32) → (Nat → Int32) → (Nat → Int32) → (Nat → Int32) → (Nat → Int32) → Int32 → Int32 → Prop) (vmHN_b47 : Int32) (vmT_b47 : Nat → Int64) (vmM_b47 : Nat → Int32) (vmK_b47 : Nat → Int32) (vmF_b47 : Nat → Int32) (vmX_b47 : Nat → Int32) (vmH_b47 : Nat → Int32) (vN_b47 : Nat → Int32) (x5_b47 : Int32) (x6_b47 : Int32) : Prop :=
  ((x6_b47 < (0 : Int32) → w_X5_within_b72 N vmN vmBN vmLo vmHi vmC vmB x2 post N vmHN_b47 vmT_b47 vmM_b47 vmK_b47 vmF_b47 vmX_b47 vmH_b47 vN_b47 x5_b47) ∧ (¬ (x6_b47 < (0 : Int32)) → w_X5_known N vmHN_b47 vmC vmT_b47 vmM_b47 vmK_b47 vmH_b47 x6_b47 (0 : Int64) (0 : Int32) (fun vmHN_54 vmT_55 vmM_56 vmK_57 vmH_58 => vp_in x6_b47 4000 ∧ ∀ x6_60 : Int32, x6_60 = (vmX_b47 x6_b47.toNatClampNeg) → k47 vmHN_54 vmT_55 vmM_56 vmK_57 vmF_b47 vmX_b47 vmH_58 vN_b47 x5_b47 x6_60)))
def w_X5_within_b47 (N : Nat) (vmN : Int32) (vmBN : Int32) (vmLo : Nat → Int32) (vmHi : Nat → Int32) (vmC : Nat → Int32) (vmB : Nat → Int32) (x2 : Int64) (post : Int32 → Int32 → (Nat → Int64) → (Nat → Int32) → (Nat → Int32) → (Nat → Int32) → (Nat → Int32) → (Nat → Int32) → Prop) : Nat → Int32 → (Nat → Int64) → (Nat → Int32) → (Nat → Int32) → (Nat → Int32) → (Nat → Int32) → (Nat → Int32) → (Nat → Int32) → Int32 → Int32 → Prop
  | 0, _, _, _, _, _, _, _, _, _, _ => False
  | n + 1, vmHN_b47, vmT_b47, vmM_b47, vmK_b47, vmF_b47, vmX_b47, vmH_b47, vN_b47, x5_b47, x6_b47 => w_X5_within_b47_B N vmN vmBN vmLo vmHi vmC vmB x2 post (w_X5_within_b47 N vmN vmBN vmLo vmHi vmC vmB x2 post n) vmHN_b47 vmT_b47 vmM_b47 vmK_b47 vmF_b47 vmX_b47 vmH_b47 vN_b47 x5_b47 x6_b47
def w_X5_within (N : Nat) (vmN : Int32) (vmR : Int32) (vmBN : Int32) (vmHN : Int32) (vmLo : Nat → Int32) (vmHi : Nat → Int32) (vmC : Nat → Int32) (vmZ : Nat → Int32) (vmB : Nat → Int32) (vmT : Nat → Int64) (vmM : Nat → Int32) (vmK : Nat → Int32) (vmF : Nat → Int32) (vmX : Nat → Int32) (vmH : Nat → Int32) (x1 : Int32) (x2 : Int64) (post : Int32 → Int32 → (Nat → Int64) → (Nat → Int32) → (Nat → Int32) → (Nat → Int32) → (Nat → Int32) → (Nat → Int32) → Prop) : Prop :=
  w_X5_isNode N vmN x1 (fun r_1 => ((¬ r_1 = (0 : Int32) → (((0 : Int32) ≤ (lg_cmp x2 (0 : Int64)) → (¬ vmN < 0 ∧ vmN.toNatClampNeg ≤ 300) ∧ vp_in x1 (vmN.toNatClampNeg) ∧ w_X5_begin N vmN vmR vmHN vmLo vmHi vmZ vmK vmF vmX (fun vmHN_7 vmK_8 vmF_9 vmX_10 => vp_in x1 300 ∧ ∀ x6_12 : Int32, x6_12 = (vmF_9 x1.toNatClampNeg) → w_X5_within_b47 N vmN vmBN vmLo vmHi vmC vmB x2 post N vmHN_7 vmT vmM vmK_8 vmF_9 vmX_10 vmH (upd (fun _ => 0) x1.toNatClampNeg (vp_nar .boolean (1 : Int32))) (1 : Int32) x6_12)) ∧ (¬ ((0 : Int32) ≤ (lg_cmp x2 (0 : Int64))) → post (0 : Int32) vmHN vmT vmM vmK vmF vmX vmH))) ∧ (r_1 = (0 : Int32) → post (-14 : Int32) vmHN vmT vmM vmK vmF vmX vmH)))
abbrev rm_X5_within : Room := { frames := 2, cells := 1, slots := 300, locals := 47 }
set_option maxHeartbeats 4000000 in
set_option maxRecDepth 100000 in
theorem k_X5_within (l : Launch) (G : va_G) (cI cJ cZ : ClassId) (aM aM1 aM2 aM3 aM4 aM6 aM8 aM9 aM10 aM11 aM12 aM13 aM15 : Nat) (sz N : Nat) (vmN : Int32) (vmR : Int32) (vmBN : Int32) (vmHN : Int32) (vmL : Int32) (vmLo : Nat → Int32) (vmHi : Nat → Int32) (vmC : Nat → Int32) (vmZ : Nat → Int32) (vmB : Nat → Int32) (vmT : Nat → Int64) (vmM : Nat → Int32) (vmK : Nat → Int32) (vmF : Nat → Int32) (vmX : Nat → Int32) (vmH : Nat → Int32) (vmRow : Nat → Int32) (x1 : Int32) (x2 : Int64) (post : Int32 → Int32 → (Nat → Int64) → (Nat → Int32) → (Nat → Int32) → (Nat → Int32) → (Nat → Int32) → (Nat → Int32) → Prop) (hw : w_X5_within N vmN vmR vmBN vmHN vmLo vmHi vmC vmZ vmB vmT vmM vmK vmF vmX vmH x1 x2 post) : Met l yX5_within wsX5_within rm_X5_within (kPc G (tyL cI cJ cZ) [.ref aM, .int x1, .long x2] sz (wdM cI cJ cZ aM aM1 aM2 aM3 aM4 aM6 aM8 aM9 aM10 aM11 aM12 aM13 aM15 vmN vmR vmBN vmHN vmL vmLo vmHi vmC vmZ vmB vmT vmM vmK vmF vmX vmH vmRow)) (va_Qi (fun (r : Int32) (u : Int32 × (Nat → Int64) × (Nat → Int32) × (Nat → Int32) × (Nat → Int32) × (Nat → Int32) × (Nat → Int32)) => post r u.1 u.2.1 u.2.2.1 u.2.2.2.1 u.2.2.2.2.1 u.2.2.2.2.2.1 u.2.2.2.2.2.2) (kB G (tyL cI cJ cZ) (va_A (wdM cI cJ cZ aM aM1 aM2 aM3 aM4 aM6 aM8 aM9 aM10 aM11 aM12 aM13 aM15 vmN vmR vmBN vmHN vmL vmLo vmHi vmC vmZ vmB vmT vmM vmK vmF vmX vmH vmRow) sz) (fun (u : Int32 × (Nat → Int64) × (Nat → Int32) × (Nat → Int32) × (Nat → Int32) × (Nat → Int32) × (Nat → Int32)) => wdM cI cJ cZ aM aM1 aM2 aM3 aM4 aM6 aM8 aM9 aM10 aM11 aM12 aM13 aM15 vmN vmR vmBN u.1 vmL vmLo vmHi vmC vmZ vmB u.2.1 u.2.2.1 u.2.2.2.1 u.2.2.2.2.1 u.2.2.2.2.2.1 u.2.2.2.2.2.2 vmRow)) (va_A (wdM cI cJ cZ aM aM1 aM2 aM3 aM4 aM6 aM8 aM9 aM10 aM11 aM12 aM13 aM15 vmN vmR vmBN vmHN vmL vmLo vmHi vmC vmZ vmB vmT vmM vmK vmF vmX vmH vmRow) sz)) 1 300 (va_A (wdM cI cJ cZ aM aM1 aM2 aM3 aM4 aM6 aM8 aM9 aM10 aM11 aM12 aM13 aM15 vmN vmR vmBN vmHN vmL vmLo vmHi vmC vmZ vmB vmT vmM vmK vmF vmX vmH vmRow) sz) := by
  refine km_i (cc := cX5_within) (maxL := 8) (by decide) rfl (Nat.le_of_ble_eq_true rfl) ?_
  intro p e s m below meth c A Q ls hx hb hml hts hown hnm hK hN hA hP hD hS hl hret
  replace hown : s.vm.findClass RX5 = some m.cls := hown
  replace hl : lv_has ls 8 [(0, .ref aM), (1, .int x1), (2, .long x2)] := hl
  unfold w_X5_within at hw
  refine lv_aload_n hx hb dX5_within_0 rfl (lv_at hl 0 rfl) ?_
  refine lv_iload_n hx hb dX5_within_1 rfl (lv_at hl 1 rfl) ?_
  refine kc_Vi (As := [.int x1]) (rest := []) (wc := wdM cI cJ cZ aM aM1 aM2 aM3 aM4 aM6 aM8 aM9 aM10 aM11 aM12 aM13 aM15 vmN vmR vmBN vmHN vmL vmLo vmHi vmC vmZ vmB vmT vmM vmK vmF vmX vmH vmRow) (wr := []) ⟨hx, hb, hml, hown, hts⟩ (cwV 1 hts gX5_within_X5_isNode rfl rfl rfl (by decide +kernel) ⟨Nat.le_of_ble_eq_true rfl, Nat.le_of_ble_eq_true rfl⟩) hK hN hA hP hD hS [0, 1, 2, 3, 4, 5, 6, 7, 8, 9, 10, 11, 12] [] rfl rfl (by decide) (by decide) (by decide) 0 rfl rfl (k_X5_isNode l G cI cJ cZ aM aM1 aM2 aM3 aM4 aM6 aM8 aM9 aM10 aM11 aM12 aM13 aM15 _ N vmN vmR vmBN vmHN vmL vmLo vmHi vmC vmZ vmB vmT vmM vmK vmF vmX vmH vmRow x1 _ hw) rfl hl.1 rfl (Nat.le_of_ble_eq_true rfl) dX5_within_2 ⟨Nat.le_of_ble_eq_true rfl, Nat.le_of_ble_eq_true rfl⟩ (fun r_1 u_ H locs hw hP hD hS => ?_)
  replace hP : va_P G vwCl (wdM cI cJ cZ aM aM1 aM2 aM3 aM4 aM6 aM8 aM9 aM10 aM11 aM12 aM13 aM15 vmN vmR vmBN vmHN vmL vmLo vmHi vmC vmZ vmB vmT vmM vmK vmF vmX vmH vmRow) H := hP.sub [0, 1, 2, 3, 4, 5, 6, 7, 8, 9, 10, 11, 12] rfl
  replace hD : va_D A (wdM cI cJ cZ aM aM1 aM2 aM3 aM4 aM6 aM8 aM9 aM10 aM11 aM12 aM13 aM15 vmN vmR vmBN vmHN vmL vmLo vmHi vmC vmZ vmB vmT vmM vmK vmF vmX vmH vmRow) := hD.sub [0, 1, 2, 3, 4, 5, 6, 7, 8, 9, 10, 11, 12] (by decide) rfl
  refine lv_if_ne (tgt := 11) hx hb dX5_within_5 (by decide) (fun c_2 => ?_) (fun c_2 => ?_)
  · replace hw := hw.1 c_2
    refine lv_lload_n hx hb dX5_within_11 rfl (lv_at hl 2 rfl) ?_
    refine lv_lconst (v := (0 : Int64)) hx hb dX5_within_12 (by decide) ?_
    refine W.lcmp hx hb dX5_within_13 ?_
    refine lv_if_ge (tgt := 19) hx hb dX5_within_14 (by decide) (fun c_3 => ?_) (fun c_3 => ?_)
    · replace hw := hw.1 c_3
      refine lv_aload_n hx hb dX5_within_19 rfl (lv_at hl 0 rfl) ?_
      refine va_get (D := G) (ci := 5) (v := .int vmN) (C := RX5) (T := TX5) (N := 17) hx hb hts (fun _ h => List.mem_cons_of_mem _ (List.mem_append_right _ h)) hown hK hP 0 rfl rfl 0 (by decide) (hts _ (List.mem_of_getElem? (i := 1) rfl)) (fun _ h9 => h9) rfl dX5_within_20 ?_
      have h_4 := hw.1
      replace hw := hw.2
      refine kn_cZ hx hb (hts _ (List.mem_of_getElem? (i := 2) rfl)) hK hP hD hS hA h_4.1 rfl (by have := h_4.2; omega) (by show 0 + 1 ≤ 1; decide) (by show 0 + _ ≤ 300; have := h_4.2; omega) dX5_within_23 (fun aN H hP hD hS => ?_)
      refine W.widen (k := 1) (n := 300) (by decide) (Nat.le_trans (Nat.le_of_eq (Nat.zero_add _)) h_4.2) ?_
      replace hP : va_P G vwCl ((wdM cI cJ cZ aM aM1 aM2 aM3 aM4 aM6 aM8 aM9 aM10 aM11 aM12 aM13 aM15 vmN vmR vmBN vmHN vmL vmLo vmHi vmC vmZ vmB vmT vmM vmK vmF vmX vmH vmRow) ++ [(aN, .inl (cZ, (vmN.toNatClampNeg), .inl (fun _ => 0)))]) H := hP
      replace hD : va_D A ((wdM cI cJ cZ aM aM1 aM2 aM3 aM4 aM6 aM8 aM9 aM10 aM11 aM12 aM13 aM15 vmN vmR vmBN vmHN vmL vmLo vmHi vmC vmZ vmB vmT vmM vmK vmF vmX vmH vmRow) ++ [(aN, .inl (cZ, (vmN.toNatClampNeg), .inl (fun _ => 0)))]) := hD
      have b72 : ∀ (n72 : Nat) (vmHN_b72 : Int32) (vmT_b72 : Nat → Int64) (vmM_b72 : Nat → Int32) (vmK_b72 : Nat → Int32) (vmF_b72 : Nat → Int32) (vmX_b72 : Nat → Int32) (vmH_b72 : Nat → Int32) (vN_b72 : Nat → Int32) (x5_b72 : Int32) (H : Heap) (locs : List Loc) (ls : Array Slot), w_X5_within_b72 N vmN vmBN vmLo vmHi vmC vmB x2 post n72 vmHN_b72 vmT_b72 vmM_b72 vmK_b72 vmF_b72 vmX_b72 vmH_b72 vN_b72 x5_b72 → va_P G vwCl ((wdM cI cJ cZ aM aM1 aM2 aM3 aM4 aM6 aM8 aM9 aM10 aM11 aM12 aM13 aM15 vmN vmR vmBN vmHN_b72 vmL vmLo vmHi vmC vmZ vmB vmT_b72 vmM_b72 vmK_b72 vmF_b72 vmX_b72 vmH_b72 vmRow) ++ [(aN, .inl (cZ, (vmN.toNatClampNeg), .inl vN_b72))]) H → va_D A ((wdM cI cJ cZ aM aM1 aM2 aM3 aM4 aM6 aM8 aM9 aM10 aM11 aM12 aM13 aM15 vmN vmR vmBN vmHN_b72 vmL vmLo vmHi vmC vmZ vmB vmT_b72 vmM_b72 vmK_b72 vmF_b72 vmX_b72 vmH_b72 vmRow) ++ [(aN, .inl (cZ, (vmN.toNatClampNeg), .inl vN_b72))]) → va_S A s.heap H locs → lv_has ls 8 [(0, .ref aM), (2, .long x2), (4, .ref aN), (5, .int x5_b72)] → W p l e rm_X5_within s m ([.ref aM, .int x1, .long x2] : List Value).toArray below meth c H locs 1 300 Q (F0 m 72 ls []) := by
        intro n72
        induction n72 with
        | zero => intro vmHN_b72 vmT_b72 vmM_b72 vmK_b72 vmF_b72 vmX_b72 vmH_b72 vN_b72 x5_b72 H locs ls hw; exact hw.elim
        | succ n72 ih72 =>
          intro vmHN_b72 vmT_b72 vmM_b72 vmK_b72 vmF_b72 vmX_b72 vmH_b72 vN_b72 x5_b72 H locs ls hw hP hD hS hl
          replace hw : w_X5_within_b72_B N vmN vmBN vmLo vmHi vmC vmB x2 post (w_X5_within_b72 N vmN vmBN vmLo vmHi vmC vmB x2 post n72) vmHN_b72 vmT_b72 vmM_b72 vmK_b72 vmF_b72 vmX_b72 vmH_b72 vN_b72 x5_b72 := hw
          unfold w_X5_within_b72_B at hw
          have b138 : ∀ (n138 : Nat) (vmHN_b138 : Int32) (vmT_b138 : Nat → Int64) (vmM_b138 : Nat → Int32) (vmK_b138 : Nat → Int32) (vmF_b138 : Nat → Int32) (vmX_b138 : Nat → Int32) (vmH_b138 : Nat → Int32) (vN_b138 : Nat → Int32) (x5_b138 : Int32) (x6_b138 : Int32) (x7_b138 : Int32) (H : Heap) (locs : List Loc) (ls : Array Slot), w_X5_within_b138 N vmBN vmLo vmHi vmC vmB post (w_X5_within_b72 N vmN vmBN vmLo vmHi vmC vmB x2 post n72) n138 vmHN_b138 vmT_b138 vmM_b138 vmK_b138 vmF_b138 vmX_b138 vmH_b138 vN_b138 x5_b138 x6_b138 x7_b138 → va_P G vwCl ((wdM cI cJ cZ aM aM1 aM2 aM3 aM4 aM6 aM8 aM9 aM10 aM11 aM12 aM13 aM15 vmN vmR vmBN vmHN_b138 vmL vmLo vmHi vmC vmZ vmB vmT_b138 vmM_b138 vmK_b138 vmF_b138 vmX_b138 vmH_b138 vmRow) ++ [(aN, .inl (cZ, (vmN.toNatClampNeg), .inl vN_b138))]) H → va_D A ((wdM cI cJ cZ aM aM1 aM2 aM3 aM4 aM6 aM8 aM9 aM10 aM11 aM12 aM13 aM15 vmN vmR vmBN vmHN_b138 vmL vmLo vmHi vmC vmZ vmB vmT_b138 vmM_b138 vmK_b138 vmF_b138 vmX_b138 vmH_b138 vmRow) ++ [(aN, .inl (cZ, (vmN.toNatClampNeg), .inl vN_b138))]) → va_S A s.heap H locs → lv_has ls 8 [(0, .ref aM), (2, .long x2), (4, .ref aN), (5, .int x5_b138), (6, .int x6_b138), (7, .int x7_b138)] → W p l e rm_X5_within s m ([.ref aM, .int x1, .long x2] : List Value).toArray below meth c H locs 1 300 Q (F0 m 138 ls []) := by
            intro n138
            induction n138 with
            | zero => intro vmHN_b138 vmT_b138 vmM_b138 vmK_b138 vmF_b138 vmX_b138 vmH_b138 vN_b138 x5_b138 x6_b138 x7_b138 H locs ls hw; exact hw.elim
            | succ n138 ih138 =>
              intro vmHN_b138 vmT_b138 vmM_b138 vmK_b138 vmF_b138 vmX_b138 vmH_b138 vN_b138 x5_b138 x6_b138 x7_b138 H locs ls hw hP hD hS hl
              replace hw : w_X5_within_b138_B N vmBN vmLo vmHi vmC vmB post (w_X5_within_b72 N vmN vmBN vmLo vmHi vmC vmB x2 post n72) (w_X5_within_b138 N vmBN vmLo vmHi vmC vmB post (w_X5_within_b72 N vmN vmBN vmLo vmHi vmC vmB x2 post n72) n138) vmHN_b138 vmT_b138 vmM_b138 vmK_b138 vmF_b138 vmX_b138 vmH_b138 vN_b138 x5_b138 x6_b138 x7_b138 := hw
              unfold w_X5_within_b138_B at hw
              refine lv_iload hx hb dX5_within_138 (lv_at hl 5 rfl) ?_
              refine lv_if_lt (tgt := 210) hx hb dX5_within_140 (by decide) (fun c_30 => ?_) (fun c_30 => ?_)
              · replace hw := hw.1 c_30
                refine lv_goto (tgt := 72) hx hb dX5_within_210 (by decide) ?_
                replace hl : lv_has ls 8 [(0, .ref aM), (2, .long x2), (4, .ref aN), (5, .int x5_b138)] := lv_sub hl [0, 1, 2, 3] rfl
                exact ih72 vmHN_b138 vmT_b138 vmM_b138 vmK_b138 vmF_b138 vmX_b138 vmH_b138 vN_b138 x5_b138 _ _ _ hw hP hD hS hl
              · replace hw := hw.2 c_30
                refine lv_aload_n hx hb dX5_within_143 rfl (lv_at hl 0 rfl) ?_
                refine va_get (D := G) (ci := 5) (v := .ref aM10) (C := RX5) (T := TX5) (N := 17) hx hb hts (fun _ h => List.mem_cons_of_mem _ (List.mem_append_right _ h)) hown hK hP 0 rfl rfl 10 (by decide) (hts _ (List.mem_of_getElem? (i := 7) rfl)) (fun _ h9 => h9) rfl dX5_within_144 ?_
                refine lv_iload hx hb dX5_within_147 (lv_at hl 5 rfl) ?_
                have h_31 := hw.1
                replace hw := hw.2
                refine va_zald hx hb hK hP 8 2 rfl rfl h_31 dX5_within_149 ?_
                refine lv_if_ne (tgt := 198) hx hb dX5_within_150 (by decide) (fun c_32 => ?_) (fun c_32 => ?_)
                · replace hw := hw.1 c_32
                  refine lv_aload_n hx hb dX5_within_198 rfl (lv_at hl 0 rfl) ?_
                  refine va_get (D := G) (ci := 5) (v := .ref aM12) (C := RX5) (T := TX5) (N := 17) hx hb hts (fun _ h => List.mem_cons_of_mem _ (List.mem_append_right _ h)) hown hK hP 0 rfl rfl 12 (by decide) (hts _ (List.mem_of_getElem? (i := 4) rfl)) (fun _ h9 => h9) rfl dX5_within_199 ?_
                  refine lv_iload hx hb dX5_within_202 (lv_at hl 5 rfl) ?_
                  refine va_iald hx hb hK hP 10 0 rfl rfl h_31 dX5_within_204 ?_
                  refine lv_topi (fun x7_33 e_34 => ?_)
                  replace hw := hw x7_33 e_34
                  refine lv_istore (lv' := [(7, .int x7_33), (0, .ref aM), (2, .long x2), (4, .ref aN), (5, .int x5_b138), (6, .int x6_b138)]) hx hb dX5_within_205 hl (by decide) rfl (fun ls hl => ?_)
                  refine lv_goto (tgt := 138) hx hb dX5_within_207 (by decide) ?_
                  replace hl : lv_has ls 8 [(0, .ref aM), (2, .long x2), (4, .ref aN), (5, .int x5_b138), (6, .int x6_b138), (7, .int x7_33)] := lv_sub hl [1, 2, 3, 4, 5, 0] rfl
                  exact ih138 vmHN_b138 vmT_b138 vmM_b138 vmK_b138 vmF_b138 vmX_b138 vmH_b138 vN_b138 x5_b138 x6_b138 x7_33 _ _ _ hw hP hD hS hl
                · replace hw := hw.2 c_32
                  refine lv_aload_n hx hb dX5_within_153 rfl (lv_at hl 0 rfl) ?_
                  refine lv_aload_n hx hb dX5_within_154 rfl (lv_at hl 0 rfl) ?_
                  refine lv_iload hx hb dX5_within_155 (lv_at hl 4 rfl) ?_
                  refine kc_Vi (As := [.int x6_b138]) (rest := [.ref aM]) (wc := wdM cI cJ cZ aM aM1 aM2 aM3 aM4 aM6 aM8 aM9 aM10 aM11 aM12 aM13 aM15 vmN vmR vmBN vmHN_b138 vmL vmLo vmHi vmC vmZ vmB vmT_b138 vmM_b138 vmK_b138 vmF_b138 vmX_b138 vmH_b138 vmRow) (wr := [(aN, .inl (cZ, (vmN.toNatClampNeg), .inl vN_b138))]) ⟨hx, hb, hml, hown, hts⟩ (cwV 1 hts gX5_within_X5_start rfl rfl rfl (by decide +kernel) ⟨Nat.le_of_ble_eq_true rfl, Nat.le_of_ble_eq_true rfl⟩) hK hN hA hP hD hS [0, 1, 2, 3, 4, 5, 6, 7, 8, 9, 10, 11, 12] [13] rfl rfl (by decide) (by decide) (by decide) 0 rfl rfl (k_X5_start l G cI cJ cZ aM aM1 aM2 aM3 aM4 aM6 aM8 aM9 aM10 aM11 aM12 aM13 aM15 _ N vmN vmR vmBN vmHN_b138 vmL vmLo vmHi vmC vmZ vmB vmT_b138 vmM_b138 vmK_b138 vmF_b138 vmX_b138 vmH_b138 vmRow x6_b138 _ hw) rfl hl.1 rfl (Nat.le_of_ble_eq_true rfl) dX5_within_157 ⟨Nat.le_of_ble_eq_true rfl, Nat.le_of_ble_eq_true rfl⟩ (fun r_35 u_ H locs hw hP hD hS => ?_)
                  replace hP : va_P G vwCl ((wdM cI cJ cZ aM aM1 aM2 aM3 aM4 aM6 aM8 aM9 aM10 aM11 aM12 aM13 aM15 vmN vmR vmBN vmHN_b138 vmL vmLo vmHi vmC vmZ vmB vmT_b138 vmM_b138 vmK_b138 vmF_b138 vmX_b138 vmH_b138 vmRow) ++ [(aN, .inl (cZ, (vmN.toNatClampNeg), .inl vN_b138))]) H := hP.sub [1, 2, 3, 4, 5, 6, 7, 8, 9, 10, 11, 12, 13, 0] rfl
                  replace hD : va_D A ((wdM cI cJ cZ aM aM1 aM2 aM3 aM4 aM6 aM8 aM9 aM10 aM11 aM12 aM13 aM15 vmN vmR vmBN vmHN_b138 vmL vmLo vmHi vmC vmZ vmB vmT_b138 vmM_b138 vmK_b138 vmF_b138 vmX_b138 vmH_b138 vmRow) ++ [(aN, .inl (cZ, (vmN.toNatClampNeg), .inl vN_b138))]) := hD.sub [1, 2, 3, 4, 5, 6, 7, 8, 9, 10, 11, 12, 13, 0] (by decide) rfl
                  refine lv_aload_n hx hb dX5_within_160 rfl (lv_at hl 0 rfl) ?_
                  refine lv_iload hx hb dX5_within_161 (lv_at hl 5 rfl) ?_
                  refine kc_Vi (As := [.int x7_b138]) (rest := [.int r_35, .ref aM]) (wc := wdM cI cJ cZ aM aM1 aM2 aM3 aM4 aM6 aM8 aM9 aM10 aM11 aM12 aM13 aM15 vmN vmR vmBN vmHN_b138 vmL vmLo vmHi vmC vmZ vmB vmT_b138 vmM_b138 vmK_b138 vmF_b138 vmX_b138 vmH_b138 vmRow) (wr := [(aN, .inl (cZ, (vmN.toNatClampNeg), .inl vN_b138))]) ⟨hx, hb, hml, hown, hts⟩ (cwV 1 hts gX5_within_X5_start rfl rfl rfl (by decide +kernel) ⟨Nat.le_of_ble_eq_true rfl, Nat.le_of_ble_eq_true rfl⟩) hK hN hA hP hD hS [0, 1, 2, 3, 4, 5, 6, 7, 8, 9, 10, 11, 12] [13] rfl rfl (by decide) (by decide) (by decide) 0 rfl rfl (k_X5_start l G cI cJ cZ aM aM1 aM2 aM3 aM4 aM6 aM8 aM9 aM10 aM11 aM12 aM13 aM15 _ N vmN vmR vmBN vmHN_b138 vmL vmLo vmHi vmC vmZ vmB vmT_b138 vmM_b138 vmK_b138 vmF_b138 vmX_b138 vmH_b138 vmRow x7_b138 _ hw) rfl hl.1 rfl (Nat.le_of_ble_eq_true rfl) dX5_within_163 ⟨Nat.le_of_ble_eq_true rfl, Nat.le_of_ble_eq_true rfl⟩ (fun r_36 u_ H locs hw hP hD hS => ?_)
                  replace hP : va_P G vwCl ((wdM cI cJ cZ aM aM1 aM2 aM3 aM4 aM6 aM8 aM9 aM10 aM11 aM12 aM13 aM15 vmN vmR vmBN vmHN_b138 vmL vmLo vmHi vmC vmZ vmB vmT_b138 vmM_b138 vmK_b138 vmF_b138 vmX_b138 vmH_b138 vmRow) ++ [(aN, .inl (cZ, (vmN.toNatClampNeg), .inl vN_b138))]) H := hP.sub [1, 2, 3, 4, 5, 6, 7, 8, 9, 10, 11, 12, 13, 0] rfl
                  replace hD : va_D A ((wdM cI cJ cZ aM aM1 aM2 aM3 aM4 aM6 aM8 aM9 aM10 aM11 aM12 aM13 aM15 vmN vmR vmBN vmHN_b138 vmL vmLo vmHi vmC vmZ vmB vmT_b138 vmM_b138 vmK_b138 vmF_b138 vmX_b138 vmH_b138 vmRow) ++ [(aN, .inl (cZ, (vmN.toNatClampNeg), .inl vN_b138))]) := hD.sub [1, 2, 3, 4, 5, 6, 7, 8, 9, 10, 11, 12, 13, 0] (by decide) rfl
                  refine lv_aload_n hx hb dX5_within_166 rfl (lv_at hl 0 rfl) ?_
                  refine lv_iload hx hb dX5_within_167 (lv_at hl 5 rfl) ?_
                  refine kc_Vi (As := [.int x7_b138]) (rest := [.int r_36, .int r_35, .ref aM]) (wc := wdM cI cJ cZ aM aM1 aM2 aM3 aM4 aM6 aM8 aM9 aM10 aM11 aM12 aM13 aM15 vmN vmR vmBN vmHN_b138 vmL vmLo vmHi vmC vmZ vmB vmT_b138 vmM_b138 vmK_b138 vmF_b138 vmX_b138 vmH_b138 vmRow) (wr := [(aN, .inl (cZ, (vmN.toNatClampNeg), .inl vN_b138))]) ⟨hx, hb, hml, hown, hts⟩ (cwV 1 hts gX5_within_X5_end rfl rfl rfl (by decide +kernel) ⟨Nat.le_of_ble_eq_true rfl, Nat.le_of_ble_eq_true rfl⟩) hK hN hA hP hD hS [0, 1, 2, 3, 4, 5, 6, 7, 8, 9, 10, 11, 12] [13] rfl rfl (by decide) (by decide) (by decide) 0 rfl rfl (k_X5_end l G cI cJ cZ aM aM1 aM2 aM3 aM4 aM6 aM8 aM9 aM10 aM11 aM12 aM13 aM15 _ N vmN vmR vmBN vmHN_b138 vmL vmLo vmHi vmC vmZ vmB vmT_b138 vmM_b138 vmK_b138 vmF_b138 vmX_b138 vmH_b138 vmRow x7_b138 _ hw) rfl hl.1 rfl (Nat.le_of_ble_eq_true rfl) dX5_within_169 ⟨Nat.le_of_ble_eq_true rfl, Nat.le_of_ble_eq_true rfl⟩ (fun r_37 u_ H locs hw hP hD hS => ?_)
                  replace hP : va_P G vwCl ((wdM cI cJ cZ aM aM1 aM2 aM3 aM4 aM6 aM8 aM9 aM10 aM11 aM12 aM13 aM15 vmN vmR vmBN vmHN_b138 vmL vmLo vmHi vmC vmZ vmB vmT_b138 vmM_b138 vmK_b138 vmF_b138 vmX_b138 vmH_b138 vmRow) ++ [(aN, .inl (cZ, (vmN.toNatClampNeg), .inl vN_b138))]) H := hP.sub [1, 2, 3, 4, 5, 6, 7, 8, 9, 10, 11, 12, 13, 0] rfl
                  replace hD : va_D A ((wdM cI cJ cZ aM aM1 aM2 aM3 aM4 aM6 aM8 aM9 aM10 aM11 aM12 aM13 aM15 vmN vmR vmBN vmHN_b138 vmL vmLo vmHi vmC vmZ vmB vmT_b138 vmM_b138 vmK_b138 vmF_b138 vmX_b138 vmH_b138 vmRow) ++ [(aN, .inl (cZ, (vmN.toNatClampNeg), .inl vN_b138))]) := hD.sub [1, 2, 3, 4, 5, 6, 7, 8, 9, 10, 11, 12, 13, 0] (by decide) rfl
                  refine kc_Vi (As := [.int r_35, .int r_36, .int r_37]) (rest := []) (wc := wdM cI cJ cZ aM aM1 aM2 aM3 aM4 aM6 aM8 aM9 aM10 aM11 aM12 aM13 aM15 vmN vmR vmBN vmHN_b138 vmL vmLo vmHi vmC vmZ vmB vmT_b138 vmM_b138 vmK_b138 vmF_b138 vmX_b138 vmH_b138 vmRow) (wr := [(aN, .inl (cZ, (vmN.toNatClampNeg), .inl vN_b138))]) ⟨hx, hb, hml, hown, hts⟩ (cwV 3 hts gX5_within_X5_barAt rfl rfl rfl (by decide +kernel) ⟨Nat.le_of_ble_eq_true rfl, Nat.le_of_ble_eq_true rfl⟩) hK hN hA hP hD hS [0, 1, 2, 3, 4, 5, 6, 7, 8, 9, 10, 11, 12] [13] rfl rfl (by decide) (by decide) (by decide) 0 rfl rfl (k_X5_barAt l G cI cJ cZ aM aM1 aM2 aM3 aM4 aM6 aM8 aM9 aM10 aM11 aM12 aM13 aM15 _ N vmN vmR vmBN vmHN_b138 vmL vmLo vmHi vmC vmZ vmB vmT_b138 vmM_b138 vmK_b138 vmF_b138 vmX_b138 vmH_b138 vmRow r_35 r_36 r_37 _ hw) rfl hl.1 rfl (Nat.le_of_ble_eq_true rfl) dX5_within_172 ⟨Nat.le_of_ble_eq_true rfl, Nat.le_of_ble_eq_true rfl⟩ (fun r_38 u_ H locs hw hP hD hS => ?_)
                  replace hP : va_P G vwCl ((wdM cI cJ cZ aM aM1 aM2 aM3 aM4 aM6 aM8 aM9 aM10 aM11 aM12 aM13 aM15 vmN vmR vmBN vmHN_b138 vmL vmLo vmHi vmC vmZ vmB vmT_b138 vmM_b138 vmK_b138 vmF_b138 vmX_b138 vmH_b138 vmRow) ++ [(aN, .inl (cZ, (vmN.toNatClampNeg), .inl vN_b138))]) H := hP.sub [1, 2, 3, 4, 5, 6, 7, 8, 9, 10, 11, 12, 13, 0] rfl
                  replace hD : va_D A ((wdM cI cJ cZ aM aM1 aM2 aM3 aM4 aM6 aM8 aM9 aM10 aM11 aM12 aM13 aM15 vmN vmR vmBN vmHN_b138 vmL vmLo vmHi vmC vmZ vmB vmT_b138 vmM_b138 vmK_b138 vmF_b138 vmX_b138 vmH_b138 vmRow) ++ [(aN, .inl (cZ, (vmN.toNatClampNeg), .inl vN_b138))]) := hD.sub [1, 2, 3, 4, 5, 6, 7, 8, 9, 10, 11, 12, 13, 0] (by decide) rfl
                  refine lv_if_ge (tgt := 198) hx hb dX5_within_175 (by decide) (fun c_39 => ?_) (fun c_39 => ?_)
                  · replace hw := hw.1 c_39
                    refine lv_aload_n hx hb dX5_within_198 rfl (lv_at hl 0 rfl) ?_
                    refine va_get (D := G) (ci := 5) (v := .ref aM12) (C := RX5) (T := TX5) (N := 17) hx hb hts (fun _ h => List.mem_cons_of_mem _ (List.mem_append_right _ h)) hown hK hP 0 rfl rfl 12 (by decide) (hts _ (List.mem_of_getElem? (i := 4) rfl)) (fun _ h9 => h9) rfl dX5_within_199 ?_
                    refine lv_iload hx hb dX5_within_202 (lv_at hl 5 rfl) ?_
                    refine va_iald hx hb hK hP 10 0 rfl rfl h_31 dX5_within_204 ?_
                    refine lv_topi (fun x7_40 e_41 => ?_)
                    replace hw := hw x7_40 e_41
                    refine lv_istore (lv' := [(7, .int x7_40), (0, .ref aM), (2, .long x2), (4, .ref aN), (5, .int x5_b138), (6, .int x6_b138)]) hx hb dX5_within_205 hl (by decide) rfl (fun ls hl => ?_)
                    refine lv_goto (tgt := 138) hx hb dX5_within_207 (by decide) ?_
                    replace hl : lv_has ls 8 [(0, .ref aM), (2, .long x2), (4, .ref aN), (5, .int x5_b138), (6, .int x6_b138), (7, .int x7_40)] := lv_sub hl [1, 2, 3, 4, 5, 0] rfl
                    exact ih138 vmHN_b138 vmT_b138 vmM_b138 vmK_b138 vmF_b138 vmX_b138 vmH_b138 vN_b138 x5_b138 x6_b138 x7_40 _ _ _ hw hP hD hS hl
                  · replace hw := hw.2 c_39
                    refine lv_aload_n hx hb dX5_within_178 rfl (lv_at hl 0 rfl) ?_
                    refine lv_iload hx hb dX5_within_179 (lv_at hl 5 rfl) ?_
                    refine lv_aload_n hx hb dX5_within_181 rfl (lv_at hl 0 rfl) ?_
                    refine va_get (D := G) (ci := 5) (v := .ref aM8) (C := RX5) (T := TX5) (N := 17) hx hb hts (fun _ h => List.mem_cons_of_mem _ (List.mem_append_right _ h)) hown hK hP 0 rfl rfl 8 (by decide) (hts _ (List.mem_of_getElem? (i := 6) rfl)) (fun _ h9 => h9) rfl dX5_within_182 ?_
                    refine lv_iload hx hb dX5_within_185 (lv_at hl 4 rfl) ?_
                    have h_42 := hw.1
                    replace hw := hw.2
                    refine va_lald hx hb hK hP 6 1 rfl rfl h_42 dX5_within_187 ?_
                    refine lv_aload_n hx hb dX5_within_188 rfl (lv_at hl 0 rfl) ?_
                    refine va_get (D := G) (ci := 5) (v := .ref aM9) (C := RX5) (T := TX5) (N := 17) hx hb hts (fun _ h => List.mem_cons_of_mem _ (List.mem_append_right _ h)) hown hK hP 0 rfl rfl 9 (by decide) (hts _ (List.mem_of_getElem? (i := 8) rfl)) (fun _ h9 => h9) rfl dX5_within_189 ?_
                    refine lv_iload hx hb dX5_within_192 (lv_at hl 4 rfl) ?_
                    refine va_iald hx hb hK hP 7 0 rfl rfl h_42 dX5_within_194 ?_
                    refine kc_Vv (As := [.int x7_b138, .long (vmT_b138 x6_b138.toNatClampNeg), .int (vmM_b138 x6_b138.toNatClampNeg)]) (rest := []) (wc := wdM cI cJ cZ aM aM1 aM2 aM3 aM4 aM6 aM8 aM9 aM10 aM11 aM12 aM13 aM15 vmN vmR vmBN vmHN_b138 vmL vmLo vmHi vmC vmZ vmB vmT_b138 vmM_b138 vmK_b138 vmF_b138 vmX_b138 vmH_b138 vmRow) (wr := [(aN, .inl (cZ, (vmN.toNatClampNeg), .inl vN_b138))]) ⟨hx, hb, hml, hown, hts⟩ (cwV 3 hts gX5_within_X5_known rfl rfl rfl (by decide +kernel) ⟨Nat.le_of_ble_eq_true rfl, Nat.le_of_ble_eq_true rfl⟩) hK hN hA hP hD hS [0, 1, 2, 3, 4, 5, 6, 7, 8, 9, 10, 11, 12] [13] rfl rfl (by decide) (by decide) (by decide) 0 rfl rfl (k_X5_known l G cI cJ cZ aM aM1 aM2 aM3 aM4 aM6 aM8 aM9 aM10 aM11 aM12 aM13 aM15 _ N vmN vmR vmBN vmHN_b138 vmL vmLo vmHi vmC vmZ vmB vmT_b138 vmM_b138 vmK_b138 vmF_b138 vmX_b138 vmH_b138 vmRow x7_b138 (vmT_b138 x6_b138.toNatClampNeg) (vmM_b138 x6_b138.toNatClampNeg) _ hw) rfl hl.1 rfl (Nat.le_of_ble_eq_true rfl) dX5_within_195 ⟨Nat.le_of_ble_eq_true rfl, Nat.le_of_ble_eq_true rfl⟩ (fun u_ H locs hw hP hD hS => ?_)
                    obtain ⟨vmHN_44, vmT_45, vmM_46, vmK_47, vmH_48⟩ := u_
                    replace hP : va_P G vwCl ((wdM cI cJ cZ aM aM1 aM2 aM3 aM4 aM6 aM8 aM9 aM10 aM11 aM12 aM13 aM15 vmN vmR vmBN vmHN_44 vmL vmLo vmHi vmC vmZ vmB vmT_45 vmM_46 vmK_47 vmF_b138 vmX_b138 vmH_48 vmRow) ++ [(aN, .inl (cZ, (vmN.toNatClampNeg), .inl vN_b138))]) H := hP.sub [1, 2, 3, 4, 5, 6, 7, 8, 9, 10, 11, 12, 13, 0] rfl
                    replace hD : va_D A ((wdM cI cJ cZ aM aM1 aM2 aM3 aM4 aM6 aM8 aM9 aM10 aM11 aM12 aM13 aM15 vmN vmR vmBN vmHN_44 vmL vmLo vmHi vmC vmZ vmB vmT_45 vmM_46 vmK_47 vmF_b138 vmX_b138 vmH_48 vmRow) ++ [(aN, .inl (cZ, (vmN.toNatClampNeg), .inl vN_b138))]) := hD.sub [1, 2, 3, 4, 5, 6, 7, 8, 9, 10, 11, 12, 13, 0] (by decide) rfl
                    refine lv_aload_n hx hb dX5_within_198 rfl (lv_at hl 0 rfl) ?_
                    refine va_get (D := G) (ci := 5) (v := .ref aM12) (C := RX5) (T := TX5) (N := 17) hx hb hts (fun _ h => List.mem_cons_of_mem _ (List.mem_append_right _ h)) hown hK hP 0 rfl rfl 12 (by decide) (hts _ (List.mem_of_getElem? (i := 4) rfl)) (fun _ h9 => h9) rfl dX5_within_199 ?_
                    refine lv_iload hx hb dX5_within_202 (lv_at hl 5 rfl) ?_
                    refine va_iald hx hb hK hP 10 0 rfl rfl h_31 dX5_within_204 ?_
                    refine lv_topi (fun x7_49 e_50 => ?_)
                    replace hw := hw x7_49 e_50
                    refine lv_istore (lv' := [(7, .int x7_49), (0, .ref aM), (2, .long x2), (4, .ref aN), (5, .int x5_b138), (6, .int x6_b138)]) hx hb dX5_within_205 hl (by decide) rfl (fun ls hl => ?_)
                    refine lv_goto (tgt := 138) hx hb dX5_within_207 (by decide) ?_
                    replace hl : lv_has ls 8 [(0, .ref aM), (2, .long x2), (4, .ref aN), (5, .int x5_b138), (6, .int x6_b138), (7, .int x7_49)] := lv_sub hl [1, 2, 3, 4, 5, 0] rfl
                    exact ih138 vmHN_44 vmT_45 vmM_46 vmK_47 vmF_b138 vmX_b138 vmH_48 vN_b138 x5_b138 x6_b138 x7_49 _ _ _ hw hP hD hS hl
          have b115 : ∀ (vmHN_b115 : Int32) (vmT_b115 : Nat → Int64) (vmM_b115 : Nat → Int32) (vmK_b115 : Nat → Int32) (vmF_b115 : Nat → Int32) (vmX_b115 : Nat → Int32) (vmH_b115 : Nat → Int32) (vN_b115 : Nat → Int32) (x5_b115 : Int32) (x6_b115 : Int32) (H : Heap) (locs : List Loc) (ls : Array Slot), w_X5_within_b115 N vmN vmBN vmLo vmHi vmC vmB post (w_X5_within_b72 N vmN vmBN vmLo vmHi vmC vmB x2 post n72) vmHN_b115 vmT_b115 vmM_b115 vmK_b115 vmF_b115 vmX_b115 vmH_b115 vN_b115 x5_b115 x6_b115 → va_P G vwCl ((wdM cI cJ cZ aM aM1 aM2 aM3 aM4 aM6 aM8 aM9 aM10 aM11 aM12 aM13 aM15 vmN vmR vmBN vmHN_b115 vmL vmLo vmHi vmC vmZ vmB vmT_b115 vmM_b115 vmK_b115 vmF_b115 vmX_b115 vmH_b115 vmRow) ++ [(aN, .inl (cZ, (vmN.toNatClampNeg), .inl vN_b115))]) H → va_D A ((wdM cI cJ cZ aM aM1 aM2 aM3 aM4 aM6 aM8 aM9 aM10 aM11 aM12 aM13 aM15 vmN vmR vmBN vmHN_b115 vmL vmLo vmHi vmC vmZ vmB vmT_b115 vmM_b115 vmK_b115 vmF_b115 vmX_b115 vmH_b115 vmRow) ++ [(aN, .inl (cZ, (vmN.toNatClampNeg), .inl vN_b115))]) → va_S A s.heap H locs → lv_has ls 8 [(0, .ref aM), (2, .long x2), (4, .ref aN), (5, .int x5_b115), (6, .int x6_b115)] → W p l e rm_X5_within s m ([.ref aM, .int x1, .long x2] : List Value).toArray below meth c H locs 1 300 Q (F0 m 115 ls []) := by
            intro vmHN_b115 vmT_b115 vmM_b115 vmK_b115 vmF_b115 vmX_b115 vmH_b115 vN_b115 x5_b115 x6_b115 H locs ls hw hP hD hS hl
            unfold w_X5_within_b115 at hw
            refine lv_aload hx hb dX5_within_115 (lv_at hl 2 rfl) ?_
            refine lv_aload_n hx hb dX5_within_117 rfl (lv_at hl 0 rfl) ?_
            refine lv_iload hx hb dX5_within_118 (lv_at hl 4 rfl) ?_
            refine kc_Vi (As := [.int x6_b115]) (rest := [.ref aN]) (wc := wdM cI cJ cZ aM aM1 aM2 aM3 aM4 aM6 aM8 aM9 aM10 aM11 aM12 aM13 aM15 vmN vmR vmBN vmHN_b115 vmL vmLo vmHi vmC vmZ vmB vmT_b115 vmM_b115 vmK_b115 vmF_b115 vmX_b115 vmH_b115 vmRow) (wr := [(aN, .inl (cZ, (vmN.toNatClampNeg), .inl vN_b115))]) ⟨hx, hb, hml, hown, hts⟩ (cwV 1 hts gX5_within_X5_end rfl rfl rfl (by decide +kernel) ⟨Nat.le_of_ble_eq_true rfl, Nat.le_of_ble_eq_true rfl⟩) hK hN hA hP hD hS [0, 1, 2, 3, 4, 5, 6, 7, 8, 9, 10, 11, 12] [13] rfl rfl (by decide) (by decide) (by decide) 0 rfl rfl (k_X5_end l G cI cJ cZ aM aM1 aM2 aM3 aM4 aM6 aM8 aM9 aM10 aM11 aM12 aM13 aM15 _ N vmN vmR vmBN vmHN_b115 vmL vmLo vmHi vmC vmZ vmB vmT_b115 vmM_b115 vmK_b115 vmF_b115 vmX_b115 vmH_b115 vmRow x6_b115 _ hw) rfl hl.1 rfl (Nat.le_of_ble_eq_true rfl) dX5_within_120 ⟨Nat.le_of_ble_eq_true rfl, Nat.le_of_ble_eq_true rfl⟩ (fun r_24 u_ H locs hw hP hD hS => ?_)
            replace hP : va_P G vwCl ((wdM cI cJ cZ aM aM1 aM2 aM3 aM4 aM6 aM8 aM9 aM10 aM11 aM12 aM13 aM15 vmN vmR vmBN vmHN_b115 vmL vmLo vmHi vmC vmZ vmB vmT_b115 vmM_b115 vmK_b115 vmF_b115 vmX_b115 vmH_b115 vmRow) ++ [(aN, .inl (cZ, (vmN.toNatClampNeg), .inl vN_b115))]) H := hP.sub [1, 2, 3, 4, 5, 6, 7, 8, 9, 10, 11, 12, 13, 0] rfl
            replace hD : va_D A ((wdM cI cJ cZ aM aM1 aM2 aM3 aM4 aM6 aM8 aM9 aM10 aM11 aM12 aM13 aM15 vmN vmR vmBN vmHN_b115 vmL vmLo vmHi vmC vmZ vmB vmT_b115 vmM_b115 vmK_b115 vmF_b115 vmX_b115 vmH_b115 vmRow) ++ [(aN, .inl (cZ, (vmN.toNatClampNeg), .inl vN_b115))]) := hD.sub [1, 2, 3, 4, 5, 6, 7, 8, 9, 10, 11, 12, 13, 0] (by decide) rfl
            refine lv_iconst (v := (1 : Int32)) hx hb dX5_within_123 (by decide) ?_
            have h_25 := hw.1
            replace hw := hw.2
            refine va_zast hx hb hK hP hD hS 13 2 rfl rfl h_25 dX5_within_124 (fun H locs hP hD hS => ?_)
            replace hP : va_P G vwCl ((wdM cI cJ cZ aM aM1 aM2 aM3 aM4 aM6 aM8 aM9 aM10 aM11 aM12 aM13 aM15 vmN vmR vmBN vmHN_b115 vmL vmLo vmHi vmC vmZ vmB vmT_b115 vmM_b115 vmK_b115 vmF_b115 vmX_b115 vmH_b115 vmRow) ++ [(aN, .inl (cZ, (vmN.toNatClampNeg), .inl (upd vN_b115 r_24.toNatClampNeg (vp_nar .boolean (1 : Int32)))))]) H := hP
            replace hD : va_D A ((wdM cI cJ cZ aM aM1 aM2 aM3 aM4 aM6 aM8 aM9 aM10 aM11 aM12 aM13 aM15 vmN vmR vmBN vmHN_b115 vmL vmLo vmHi vmC vmZ vmB vmT_b115 vmM_b115 vmK_b115 vmF_b115 vmX_b115 vmH_b115 vmRow) ++ [(aN, .inl (cZ, (vmN.toNatClampNeg), .inl (upd vN_b115 r_24.toNatClampNeg (vp_nar .boolean (1 : Int32)))))]) := hD
            refine lv_aload_n hx hb dX5_within_125 rfl (lv_at hl 0 rfl) ?_
            refine va_get (D := G) (ci := 5) (v := .ref aM11) (C := RX5) (T := TX5) (N := 17) hx hb hts (fun _ h => List.mem_cons_of_mem _ (List.mem_append_right _ h)) hown hK hP 0 rfl rfl 11 (by decide) (hts _ (List.mem_of_getElem? (i := 3) rfl)) (fun _ h9 => h9) rfl dX5_within_126 ?_
            refine lv_aload_n hx hb dX5_within_129 rfl (lv_at hl 0 rfl) ?_
            refine lv_iload hx hb dX5_within_130 (lv_at hl 4 rfl) ?_
            refine kc_Vi (As := [.int x6_b115]) (rest := [.ref aM11]) (wc := wdM cI cJ cZ aM aM1 aM2 aM3 aM4 aM6 aM8 aM9 aM10 aM11 aM12 aM13 aM15 vmN vmR vmBN vmHN_b115 vmL vmLo vmHi vmC vmZ vmB vmT_b115 vmM_b115 vmK_b115 vmF_b115 vmX_b115 vmH_b115 vmRow) (wr := [(aN, .inl (cZ, (vmN.toNatClampNeg), .inl (upd vN_b115 r_24.toNatClampNeg (vp_nar .boolean (1 : Int32)))))]) ⟨hx, hb, hml, hown, hts⟩ (cwV 1 hts gX5_within_X5_end rfl rfl rfl (by decide +kernel) ⟨Nat.le_of_ble_eq_true rfl, Nat.le_of_ble_eq_true rfl⟩) hK hN hA hP hD hS [0, 1, 2, 3, 4, 5, 6, 7, 8, 9, 10, 11, 12] [13] rfl rfl (by decide) (by decide) (by decide) 0 rfl rfl (k_X5_end l G cI cJ cZ aM aM1 aM2 aM3 aM4 aM6 aM8 aM9 aM10 aM11 aM12 aM13 aM15 _ N vmN vmR vmBN vmHN_b115 vmL vmLo vmHi vmC vmZ vmB vmT_b115 vmM_b115 vmK_b115 vmF_b115 vmX_b115 vmH_b115 vmRow x6_b115 _ hw) rfl hl.1 rfl (Nat.le_of_ble_eq_true rfl) dX5_within_132 ⟨Nat.le_of_ble_eq_true rfl, Nat.le_of_ble_eq_true rfl⟩ (fun r_26 u_ H locs hw hP hD hS => ?_)
            replace hP : va_P G vwCl ((wdM cI cJ cZ aM aM1 aM2 aM3 aM4 aM6 aM8 aM9 aM10 aM11 aM12 aM13 aM15 vmN vmR vmBN vmHN_b115 vmL vmLo vmHi vmC vmZ vmB vmT_b115 vmM_b115 vmK_b115 vmF_b115 vmX_b115 vmH_b115 vmRow) ++ [(aN, .inl (cZ, (vmN.toNatClampNeg), .inl (upd vN_b115 r_24.toNatClampNeg (vp_nar .boolean (1 : Int32)))))]) H := hP.sub [1, 2, 3, 4, 5, 6, 7, 8, 9, 10, 11, 12, 13, 0] rfl
            replace hD : va_D A ((wdM cI cJ cZ aM aM1 aM2 aM3 aM4 aM6 aM8 aM9 aM10 aM11 aM12 aM13 aM15 vmN vmR vmBN vmHN_b115 vmL vmLo vmHi vmC vmZ vmB vmT_b115 vmM_b115 vmK_b115 vmF_b115 vmX_b115 vmH_b115 vmRow) ++ [(aN, .inl (cZ, (vmN.toNatClampNeg), .inl (upd vN_b115 r_24.toNatClampNeg (vp_nar .boolean (1 : Int32)))))]) := hD.sub [1, 2, 3, 4, 5, 6, 7, 8, 9, 10, 11, 12, 13, 0] (by decide) rfl
            have h_27 := hw.1
            replace hw := hw.2
            refine va_iald hx hb hK hP 9 0 rfl rfl h_27 dX5_within_135 ?_
            refine lv_topi (fun x7_28 e_29 => ?_)
            replace hw := hw x7_28 e_29
            refine lv_istore (lv' := [(7, .int x7_28), (0, .ref aM), (2, .long x2), (4, .ref aN), (5, .int x5_b115), (6, .int x6_b115)]) hx hb dX5_within_136 hl (by decide) rfl (fun ls hl => ?_)
            replace hl : lv_has ls 8 [(0, .ref aM), (2, .long x2), (4, .ref aN), (5, .int x5_b115), (6, .int x6_b115), (7, .int x7_28)] := lv_sub hl [1, 2, 3, 4, 5, 0] rfl
            exact b138 N vmHN_b115 vmT_b115 vmM_b115 vmK_b115 vmF_b115 vmX_b115 vmH_b115 (upd vN_b115 r_24.toNatClampNeg (vp_nar .boolean (1 : Int32))) x5_b115 x6_b115 x7_28 _ _ _ hw hP hD hS hl
          refine lv_aload_n hx hb dX5_within_72 rfl (lv_at hl 0 rfl) ?_
          refine va_get (D := G) (ci := 5) (v := .int vmHN_b72) (C := RX5) (T := TX5) (N := 17) hx hb hts (fun _ h => List.mem_cons_of_mem _ (List.mem_append_right _ h)) hown hK hP 0 rfl rfl 14 (by decide) (hts _ (List.mem_of_getElem? (i := 5) rfl)) (fun _ h9 => h9) rfl dX5_within_73 ?_
          refine lv_if_le (tgt := 213) hx hb dX5_within_76 (by decide) (fun c_15 => ?_) (fun c_15 => ?_)
          · replace hw := hw.1 c_15
            refine lv_iload hx hb dX5_within_213 (lv_at hl 3 rfl) ?_
            replace hP : va_P G vwCl (wdM cI cJ cZ aM aM1 aM2 aM3 aM4 aM6 aM8 aM9 aM10 aM11 aM12 aM13 aM15 vmN vmR vmBN vmHN_b72 vmL vmLo vmHi vmC vmZ vmB vmT_b72 vmM_b72 vmK_b72 vmF_b72 vmX_b72 vmH_b72 vmRow) H := hP.sub [0, 1, 2, 3, 4, 5, 6, 7, 8, 9, 10, 11, 12] rfl
            replace hD : va_D A (wdM cI cJ cZ aM aM1 aM2 aM3 aM4 aM6 aM8 aM9 aM10 aM11 aM12 aM13 aM15 vmN vmR vmBN vmHN_b72 vmL vmLo vmHi vmC vmZ vmB vmT_b72 vmM_b72 vmK_b72 vmF_b72 vmX_b72 vmH_b72 vmRow) := hD.sub [0, 1, 2, 3, 4, 5, 6, 7, 8, 9, 10, 11, 12] (by decide) rfl
            exact hret 215 x5_b72 (vmHN_b72, vmT_b72, vmM_b72, vmK_b72, vmF_b72, vmX_b72, vmH_b72) _ _ _ dX5_within_215 hw hP hD hS
          · replace hw := hw.2 c_15
            refine lv_aload_n hx hb dX5_within_79 rfl (lv_at hl 0 rfl) ?_
            refine kc_Vi (As := []) (rest := []) (wc := wdM cI cJ cZ aM aM1 aM2 aM3 aM4 aM6 aM8 aM9 aM10 aM11 aM12 aM13 aM15 vmN vmR vmBN vmHN_b72 vmL vmLo vmHi vmC vmZ vmB vmT_b72 vmM_b72 vmK_b72 vmF_b72 vmX_b72 vmH_b72 vmRow) (wr := [(aN, .inl (cZ, (vmN.toNatClampNeg), .inl vN_b72))]) ⟨hx, hb, hml, hown, hts⟩ (cwV 0 hts gX5_within_X5_pull rfl rfl rfl (by decide +kernel) ⟨Nat.le_of_ble_eq_true rfl, Nat.le_of_ble_eq_true rfl⟩) hK hN hA hP hD hS [0, 1, 2, 3, 4, 5, 6, 7, 8, 9, 10, 11, 12] [13] rfl rfl (by decide) (by decide) (by decide) 0 rfl rfl (k_X5_pull l G cI cJ cZ aM aM1 aM2 aM3 aM4 aM6 aM8 aM9 aM10 aM11 aM12 aM13 aM15 _ N vmN vmR vmBN vmHN_b72 vmL vmLo vmHi vmC vmZ vmB vmT_b72 vmM_b72 vmK_b72 vmF_b72 vmX_b72 vmH_b72 vmRow  _ hw) rfl hl.1 rfl (Nat.le_of_ble_eq_true rfl) dX5_within_80 ⟨Nat.le_of_ble_eq_true rfl, Nat.le_of_ble_eq_true rfl⟩ (fun r_16 u_ H locs hw hP hD hS => ?_)
            obtain ⟨vmHN_17, vmH_18⟩ := u_
            replace hP : va_P G vwCl ((wdM cI cJ cZ aM aM1 aM2 aM3 aM4 aM6 aM8 aM9 aM10 aM11 aM12 aM13 aM15 vmN vmR vmBN vmHN_17 vmL vmLo vmHi vmC vmZ vmB vmT_b72 vmM_b72 vmK_b72 vmF_b72 vmX_b72 vmH_18 vmRow) ++ [(aN, .inl (cZ, (vmN.toNatClampNeg), .inl vN_b72))]) H := hP.sub [1, 2, 3, 4, 5, 6, 7, 8, 9, 10, 11, 12, 13, 0] rfl
            replace hD : va_D A ((wdM cI cJ cZ aM aM1 aM2 aM3 aM4 aM6 aM8 aM9 aM10 aM11 aM12 aM13 aM15 vmN vmR vmBN vmHN_17 vmL vmLo vmHi vmC vmZ vmB vmT_b72 vmM_b72 vmK_b72 vmF_b72 vmX_b72 vmH_18 vmRow) ++ [(aN, .inl (cZ, (vmN.toNatClampNeg), .inl vN_b72))]) := hD.sub [1, 2, 3, 4, 5, 6, 7, 8, 9, 10, 11, 12, 13, 0] (by decide) rfl
            refine lv_istore (lv' := [(6, .int r_16), (0, .ref aM), (2, .long x2), (4, .ref aN), (5, .int x5_b72)]) hx hb dX5_within_83 hl (by decide) rfl (fun ls hl => ?_)
            refine lv_aload_n hx hb dX5_within_85 rfl (lv_at hl 1 rfl) ?_
            refine va_get (D := G) (ci := 5) (v := .ref aM8) (C := RX5) (T := TX5) (N := 17) hx hb hts (fun _ h => List.mem_cons_of_mem _ (List.mem_append_right _ h)) hown hK hP 0 rfl rfl 8 (by decide) (hts _ (List.mem_of_getElem? (i := 6) rfl)) (fun _ h9 => h9) rfl dX5_within_86 ?_
            refine lv_iload hx hb dX5_within_89 (lv_at hl 0 rfl) ?_
            have h_19 := hw.1
            replace hw := hw.2
            refine va_lald hx hb hK hP 6 1 rfl rfl h_19 dX5_within_91 ?_
            refine lv_lload_n hx hb dX5_within_92 rfl (lv_at hl 2 rfl) ?_
            refine W.lcmp hx hb dX5_within_93 ?_
            refine lv_if_le (tgt := 100) hx hb dX5_within_94 (by decide) (fun c_20 => ?_) (fun c_20 => ?_)
            · replace hw := hw.1 c_20
              refine lv_aload hx hb dX5_within_100 (lv_at hl 3 rfl) ?_
              refine lv_aload_n hx hb dX5_within_102 rfl (lv_at hl 1 rfl) ?_
              refine lv_iload hx hb dX5_within_103 (lv_at hl 0 rfl) ?_
              refine kc_Vi (As := [.int r_16]) (rest := [.ref aN]) (wc := wdM cI cJ cZ aM aM1 aM2 aM3 aM4 aM6 aM8 aM9 aM10 aM11 aM12 aM13 aM15 vmN vmR vmBN vmHN_17 vmL vmLo vmHi vmC vmZ vmB vmT_b72 vmM_b72 vmK_b72 vmF_b72 vmX_b72 vmH_18 vmRow) (wr := [(aN, .inl (cZ, (vmN.toNatClampNeg), .inl vN_b72))]) ⟨hx, hb, hml, hown, hts⟩ (cwV 1 hts gX5_within_X5_end rfl rfl rfl (by decide +kernel) ⟨Nat.le_of_ble_eq_true rfl, Nat.le_of_ble_eq_true rfl⟩) hK hN hA hP hD hS [0, 1, 2, 3, 4, 5, 6, 7, 8, 9, 10, 11, 12] [13] rfl rfl (by decide) (by decide) (by decide) 0 rfl rfl (k_X5_end l G cI cJ cZ aM aM1 aM2 aM3 aM4 aM6 aM8 aM9 aM10 aM11 aM12 aM13 aM15 _ N vmN vmR vmBN vmHN_17 vmL vmLo vmHi vmC vmZ vmB vmT_b72 vmM_b72 vmK_b72 vmF_b72 vmX_b72 vmH_18 vmRow r_16 _ hw) rfl hl.1 rfl (Nat.le_of_ble_eq_true rfl) dX5_within_105 ⟨Nat.le_of_ble_eq_true rfl, Nat.le_of_ble_eq_true rfl⟩ (fun r_21 u_ H locs hw hP hD hS => ?_)
              replace hP : va_P G vwCl ((wdM cI cJ cZ aM aM1 aM2 aM3 aM4 aM6 aM8 aM9 aM10 aM11 aM12 aM13 aM15 vmN vmR vmBN vmHN_17 vmL vmLo vmHi vmC vmZ vmB vmT_b72 vmM_b72 vmK_b72 vmF_b72 vmX_b72 vmH_18 vmRow) ++ [(aN, .inl (cZ, (vmN.toNatClampNeg), .inl vN_b72))]) H := hP.sub [1, 2, 3, 4, 5, 6, 7, 8, 9, 10, 11, 12, 13, 0] rfl
              replace hD : va_D A ((wdM cI cJ cZ aM aM1 aM2 aM3 aM4 aM6 aM8 aM9 aM10 aM11 aM12 aM13 aM15 vmN vmR vmBN vmHN_17 vmL vmLo vmHi vmC vmZ vmB vmT_b72 vmM_b72 vmK_b72 vmF_b72 vmX_b72 vmH_18 vmRow) ++ [(aN, .inl (cZ, (vmN.toNatClampNeg), .inl vN_b72))]) := hD.sub [1, 2, 3, 4, 5, 6, 7, 8, 9, 10, 11, 12, 13, 0] (by decide) rfl
              have h_22 := hw.1
              replace hw := hw.2
              refine va_zald hx hb hK hP 13 2 rfl rfl h_22 dX5_within_108 ?_
              refine lv_if_ne (tgt := 115) hx hb dX5_within_109 (by decide) (fun c_23 => ?_) (fun c_23 => ?_)
              · replace hw := hw.1 c_23
                replace hl : lv_has ls 8 [(0, .ref aM), (2, .long x2), (4, .ref aN), (5, .int x5_b72), (6, .int r_16)] := lv_sub hl [1, 2, 3, 4, 0] rfl
                exact b115 vmHN_17 vmT_b72 vmM_b72 vmK_b72 vmF_b72 vmX_b72 vmH_18 vN_b72 x5_b72 r_16 _ _ _ hw hP hD hS hl
              · replace hw := hw.2 c_23
                obtain ⟨x5_51, e_52⟩ : ∃ y : Int32, y = x5_b72 + (1 : Int32) := ⟨_, rfl⟩
                replace hw := hw x5_51 e_52
                refine lv_iinc (v := x5_51) (lv' := [(5, .int x5_51), (6, .int r_16), (0, .ref aM), (2, .long x2), (4, .ref aN)]) hx hb dX5_within_112 hl (k := 4) rfl (by rw [e_52]; rfl) (by decide) rfl (fun ls hl => ?_)
                replace hl : lv_has ls 8 [(0, .ref aM), (2, .long x2), (4, .ref aN), (5, .int x5_51), (6, .int r_16)] := lv_sub hl [2, 3, 4, 0, 1] rfl
                exact b115 vmHN_17 vmT_b72 vmM_b72 vmK_b72 vmF_b72 vmX_b72 vmH_18 vN_b72 x5_51 r_16 _ _ _ hw hP hD hS hl
            · replace hw := hw.2 c_20
              refine lv_goto (tgt := 72) hx hb dX5_within_97 (by decide) ?_
              replace hl : lv_has ls 8 [(0, .ref aM), (2, .long x2), (4, .ref aN), (5, .int x5_b72)] := lv_sub hl [1, 2, 3, 4] rfl
              exact ih72 vmHN_17 vmT_b72 vmM_b72 vmK_b72 vmF_b72 vmX_b72 vmH_18 vN_b72 x5_b72 _ _ _ hw hP hD hS hl
      have b47 : ∀ (n47 : Nat) (vmHN_b47 : Int32) (vmT_b47 : Nat → Int64) (vmM_b47 : Nat → Int32) (vmK_b47 : Nat → Int32) (vmF_b47 : Nat → Int32) (vmX_b47 : Nat → Int32) (vmH_b47 : Nat → Int32) (vN_b47 : Nat → Int32) (x5_b47 : Int32) (x6_b47 : Int32) (H : Heap) (locs : List Loc) (ls : Array Slot), w_X5_within_b47 N vmN vmBN vmLo vmHi vmC vmB x2 post n47 vmHN_b47 vmT_b47 vmM_b47 vmK_b47 vmF_b47 vmX_b47 vmH_b47 vN_b47 x5_b47 x6_b47 → va_P G vwCl ((wdM cI cJ cZ aM aM1 aM2 aM3 aM4 aM6 aM8 aM9 aM10 aM11 aM12 aM13 aM15 vmN vmR vmBN vmHN_b47 vmL vmLo vmHi vmC vmZ vmB vmT_b47 vmM_b47 vmK_b47 vmF_b47 vmX_b47 vmH_b47 vmRow) ++ [(aN, .inl (cZ, (vmN.toNatClampNeg), .inl vN_b47))]) H → va_D A ((wdM cI cJ cZ aM aM1 aM2 aM3 aM4 aM6 aM8 aM9 aM10 aM11 aM12 aM13 aM15 vmN vmR vmBN vmHN_b47 vmL vmLo vmHi vmC vmZ vmB vmT_b47 vmM_b47 vmK_b47 vmF_b47 vmX_b47 vmH_b47 vmRow) ++ [(aN, .inl (cZ, (vmN.toNatClampNeg), .inl vN_b47))]) → va_S A s.heap H locs → lv_has ls 8 [(0, .ref aM), (2, .long x2), (4, .ref aN), (5, .int x5_b47), (6, .int x6_b47)] → W p l e rm_X5_within s m ([.ref aM, .int x1, .long x2] : List Value).toArray below meth c H locs 1 300 Q (F0 m 47 ls []) := by
        intro n47
        induction n47 with
        | zero => intro vmHN_b47 vmT_b47 vmM_b47 vmK_b47 vmF_b47 vmX_b47 vmH_b47 vN_b47 x5_b47 x6_b47 H locs ls hw; exact hw.elim
        | succ n47 ih47 =>
          intro vmHN_b47 vmT_b47 vmM_b47 vmK_b47 vmF_b47 vmX_b47 vmH_b47 vN_b47 x5_b47 x6_b47 H locs ls hw hP hD hS hl
          replace hw : w_X5_within_b47_B N vmN vmBN vmLo vmHi vmC vmB x2 post (w_X5_within_b47 N vmN vmBN vmLo vmHi vmC vmB x2 post n47) vmHN_b47 vmT_b47 vmM_b47 vmK_b47 vmF_b47 vmX_b47 vmH_b47 vN_b47 x5_b47 x6_b47 := hw
          unfold w_X5_within_b47_B at hw
          refine lv_iload hx hb dX5_within_47 (lv_at hl 4 rfl) ?_
          refine lv_if_lt (tgt := 72) hx hb dX5_within_49 (by decide) (fun c_14 => ?_) (fun c_14 => ?_)
          · replace hw := hw.1 c_14
            replace hl : lv_has ls 8 [(0, .ref aM), (2, .long x2), (4, .ref aN), (5, .int x5_b47)] := lv_sub hl [0, 1, 2, 3] rfl
            exact b72 N vmHN_b47 vmT_b47 vmM_b47 vmK_b47 vmF_b47 vmX_b47 vmH_b47 vN_b47 x5_b47 _ _ _ hw hP hD hS hl
          · replace hw := hw.2 c_14
            refine lv_aload_n hx hb dX5_within_52 rfl (lv_at hl 0 rfl) ?_
            refine lv_iload hx hb dX5_within_53 (lv_at hl 4 rfl) ?_
            refine lv_lconst (v := (0 : Int64)) hx hb dX5_within_55 (by decide) ?_
            refine lv_iconst (v := (0 : Int32)) hx hb dX5_within_56 (by decide) ?_
            refine kc_Vv (As := [.int x6_b47, .long (0 : Int64), .int (0 : Int32)]) (rest := []) (wc := wdM cI cJ cZ aM aM1 aM2 aM3 aM4 aM6 aM8 aM9 aM10 aM11 aM12 aM13 aM15 vmN vmR vmBN vmHN_b47 vmL vmLo vmHi vmC vmZ vmB vmT_b47 vmM_b47 vmK_b47 vmF_b47 vmX_b47 vmH_b47 vmRow) (wr := [(aN, .inl (cZ, (vmN.toNatClampNeg), .inl vN_b47))]) ⟨hx, hb, hml, hown, hts⟩ (cwV 3 hts gX5_within_X5_known rfl rfl rfl (by decide +kernel) ⟨Nat.le_of_ble_eq_true rfl, Nat.le_of_ble_eq_true rfl⟩) hK hN hA hP hD hS [0, 1, 2, 3, 4, 5, 6, 7, 8, 9, 10, 11, 12] [13] rfl rfl (by decide) (by decide) (by decide) 0 rfl rfl (k_X5_known l G cI cJ cZ aM aM1 aM2 aM3 aM4 aM6 aM8 aM9 aM10 aM11 aM12 aM13 aM15 _ N vmN vmR vmBN vmHN_b47 vmL vmLo vmHi vmC vmZ vmB vmT_b47 vmM_b47 vmK_b47 vmF_b47 vmX_b47 vmH_b47 vmRow x6_b47 (0 : Int64) (0 : Int32) _ hw) rfl hl.1 rfl (Nat.le_of_ble_eq_true rfl) dX5_within_57 ⟨Nat.le_of_ble_eq_true rfl, Nat.le_of_ble_eq_true rfl⟩ (fun u_ H locs hw hP hD hS => ?_)
            obtain ⟨vmHN_54, vmT_55, vmM_56, vmK_57, vmH_58⟩ := u_
            replace hP : va_P G vwCl ((wdM cI cJ cZ aM aM1 aM2 aM3 aM4 aM6 aM8 aM9 aM10 aM11 aM12 aM13 aM15 vmN vmR vmBN vmHN_54 vmL vmLo vmHi vmC vmZ vmB vmT_55 vmM_56 vmK_57 vmF_b47 vmX_b47 vmH_58 vmRow) ++ [(aN, .inl (cZ, (vmN.toNatClampNeg), .inl vN_b47))]) H := hP.sub [1, 2, 3, 4, 5, 6, 7, 8, 9, 10, 11, 12, 13, 0] rfl
            replace hD : va_D A ((wdM cI cJ cZ aM aM1 aM2 aM3 aM4 aM6 aM8 aM9 aM10 aM11 aM12 aM13 aM15 vmN vmR vmBN vmHN_54 vmL vmLo vmHi vmC vmZ vmB vmT_55 vmM_56 vmK_57 vmF_b47 vmX_b47 vmH_58 vmRow) ++ [(aN, .inl (cZ, (vmN.toNatClampNeg), .inl vN_b47))]) := hD.sub [1, 2, 3, 4, 5, 6, 7, 8, 9, 10, 11, 12, 13, 0] (by decide) rfl
            refine lv_aload_n hx hb dX5_within_60 rfl (lv_at hl 0 rfl) ?_
            refine va_get (D := G) (ci := 5) (v := .ref aM12) (C := RX5) (T := TX5) (N := 17) hx hb hts (fun _ h => List.mem_cons_of_mem _ (List.mem_append_right _ h)) hown hK hP 0 rfl rfl 12 (by decide) (hts _ (List.mem_of_getElem? (i := 4) rfl)) (fun _ h9 => h9) rfl dX5_within_61 ?_
            refine lv_iload hx hb dX5_within_64 (lv_at hl 4 rfl) ?_
            have h_59 := hw.1
            replace hw := hw.2
            refine va_iald hx hb hK hP 10 0 rfl rfl h_59 dX5_within_66 ?_
            refine lv_topi (fun x6_60 e_61 => ?_)
            replace hw := hw x6_60 e_61
            refine lv_istore (lv' := [(6, .int x6_60), (0, .ref aM), (2, .long x2), (4, .ref aN), (5, .int x5_b47)]) hx hb dX5_within_67 hl (by decide) rfl (fun ls hl => ?_)
            refine lv_goto (tgt := 47) hx hb dX5_within_69 (by decide) ?_
            replace hl : lv_has ls 8 [(0, .ref aM), (2, .long x2), (4, .ref aN), (5, .int x5_b47), (6, .int x6_60)] := lv_sub hl [1, 2, 3, 4, 0] rfl
            exact ih47 vmHN_54 vmT_55 vmM_56 vmK_57 vmF_b47 vmX_b47 vmH_58 vN_b47 x5_b47 x6_60 _ _ _ hw hP hD hS hl
      refine lv_astore (lv' := [(4, .ref aN), (0, .ref aM), (1, .int x1), (2, .long x2)]) hx hb dX5_within_25 hl (by decide) rfl (fun ls hl => ?_)
      refine lv_aload hx hb dX5_within_27 (lv_at hl 0 rfl) ?_
      refine lv_iload_n hx hb dX5_within_29 rfl (lv_at hl 2 rfl) ?_
      refine lv_iconst (v := (1 : Int32)) hx hb dX5_within_30 (by decide) ?_
      have h_5 := hw.1
      replace hw := hw.2
      refine va_zast hx hb hK hP hD hS 13 2 rfl rfl h_5 dX5_within_31 (fun H locs hP hD hS => ?_)
      replace hP : va_P G vwCl ((wdM cI cJ cZ aM aM1 aM2 aM3 aM4 aM6 aM8 aM9 aM10 aM11 aM12 aM13 aM15 vmN vmR vmBN vmHN vmL vmLo vmHi vmC vmZ vmB vmT vmM vmK vmF vmX vmH vmRow) ++ [(aN, .inl (cZ, (vmN.toNatClampNeg), .inl (upd (fun _ => 0) x1.toNatClampNeg (vp_nar .boolean (1 : Int32)))))]) H := hP
      replace hD : va_D A ((wdM cI cJ cZ aM aM1 aM2 aM3 aM4 aM6 aM8 aM9 aM10 aM11 aM12 aM13 aM15 vmN vmR vmBN vmHN vmL vmLo vmHi vmC vmZ vmB vmT vmM vmK vmF vmX vmH vmRow) ++ [(aN, .inl (cZ, (vmN.toNatClampNeg), .inl (upd (fun _ => 0) x1.toNatClampNeg (vp_nar .boolean (1 : Int32)))))]) := hD
      refine lv_iconst (v := (1 : Int32)) hx hb dX5_within_32 (by decide) ?_
      refine lv_istore (lv' := [(5, .int (1 : Int32)), (4, .ref aN), (0, .ref aM), (1, .int x1), (2, .long x2)]) hx hb dX5_within_33 hl (by decide) rfl (fun ls hl => ?_)
      refine lv_aload_n hx hb dX5_within_35 rfl (lv_at hl 2 rfl) ?_
      refine kc_Vv (As := []) (rest := []) (wc := wdM cI cJ cZ aM aM1 aM2 aM3 aM4 aM6 aM8 aM9 aM10 aM11 aM12 aM13 aM15 vmN vmR vmBN vmHN vmL vmLo vmHi vmC vmZ vmB vmT vmM vmK vmF vmX vmH vmRow) (wr := [(aN, .inl (cZ, (vmN.toNatClampNeg), .inl (upd (fun _ => 0) x1.toNatClampNeg (vp_nar .boolean (1 : Int32)))))]) ⟨hx, hb, hml, hown, hts⟩ (cwV 0 hts gX5_within_X5_begin rfl rfl rfl (by decide +kernel) ⟨Nat.le_of_ble_eq_true rfl, Nat.le_of_ble_eq_true rfl⟩) hK hN hA hP hD hS [0, 1, 2, 3, 4, 5, 6, 7, 8, 9, 10, 11, 12] [13] rfl rfl (by decide) (by decide) (by decide) 0 rfl rfl (k_X5_begin l G cI cJ cZ aM aM1 aM2 aM3 aM4 aM6 aM8 aM9 aM10 aM11 aM12 aM13 aM15 _ N vmN vmR vmBN vmHN vmL vmLo vmHi vmC vmZ vmB vmT vmM vmK vmF vmX vmH vmRow  _ hw) rfl hl.1 rfl (Nat.le_of_ble_eq_true rfl) dX5_within_36 ⟨Nat.le_of_ble_eq_true rfl, Nat.le_of_ble_eq_true rfl⟩ (fun u_ H locs hw hP hD hS => ?_)
      obtain ⟨vmHN_7, vmK_8, vmF_9, vmX_10⟩ := u_
      replace hP : va_P G vwCl ((wdM cI cJ cZ aM aM1 aM2 aM3 aM4 aM6 aM8 aM9 aM10 aM11 aM12 aM13 aM15 vmN vmR vmBN vmHN_7 vmL vmLo vmHi vmC vmZ vmB vmT vmM vmK_8 vmF_9 vmX_10 vmH vmRow) ++ [(aN, .inl (cZ, (vmN.toNatClampNeg), .inl (upd (fun _ => 0) x1.toNatClampNeg (vp_nar .boolean (1 : Int32)))))]) H := hP.sub [1, 2, 3, 4, 5, 6, 7, 8, 9, 10, 11, 12, 13, 0] rfl
      replace hD : va_D A ((wdM cI cJ cZ aM aM1 aM2 aM3 aM4 aM6 aM8 aM9 aM10 aM11 aM12 aM13 aM15 vmN vmR vmBN vmHN_7 vmL vmLo vmHi vmC vmZ vmB vmT vmM vmK_8 vmF_9 vmX_10 vmH vmRow) ++ [(aN, .inl (cZ, (vmN.toNatClampNeg), .inl (upd (fun _ => 0) x1.toNatClampNeg (vp_nar .boolean (1 : Int32)))))]) := hD.sub [1, 2, 3, 4, 5, 6, 7, 8, 9, 10, 11, 12, 13, 0] (by decide) rfl
      refine lv_aload_n hx hb dX5_within_39 rfl (lv_at hl 2 rfl) ?_
      refine va_get (D := G) (ci := 5) (v := .ref aM11) (C := RX5) (T := TX5) (N := 17) hx hb hts (fun _ h => List.mem_cons_of_mem _ (List.mem_append_right _ h)) hown hK hP 0 rfl rfl 11 (by decide) (hts _ (List.mem_of_getElem? (i := 3) rfl)) (fun _ h9 => h9) rfl dX5_within_40 ?_
      refine lv_iload_n hx hb dX5_within_43 rfl (lv_at hl 3 rfl) ?_
      have h_11 := hw.1
      replace hw := hw.2
      refine va_iald hx hb hK hP 9 0 rfl rfl h_11 dX5_within_44 ?_
      refine lv_topi (fun x6_12 e_13 => ?_)
      replace hw := hw x6_12 e_13
      refine lv_istore (lv' := [(6, .int x6_12), (5, .int (1 : Int32)), (4, .ref aN), (0, .ref aM), (1, .int x1), (2, .long x2)]) hx hb dX5_within_45 hl (by decide) rfl (fun ls hl => ?_)
      replace hl : lv_has ls 8 [(0, .ref aM), (2, .long x2), (4, .ref aN), (5, .int (1 : Int32)), (6, .int x6_12)] := lv_sub hl [3, 5, 2, 1, 0] rfl
      exact b47 N vmHN_7 vmT vmM vmK_8 vmF_9 vmX_10 vmH (upd (fun _ => 0) x1.toNatClampNeg (vp_nar .boolean (1 : Int32))) (1 : Int32) x6_12 _ _ _ hw hP hD hS hl
    · replace hw := hw.2 c_3
      refine lv_iconst (v := (0 : Int32)) hx hb dX5_within_17 (by decide) ?_
      refine W.widen (k := 1) (n := 300) (by decide) (by decide) ?_
      exact hret 18 (0 : Int32) (vmHN, vmT, vmM, vmK, vmF, vmX, vmH) _ _ _ dX5_within_18 hw hP hD hS
  · replace hw := hw.2 c_2
    refine lv_bipush (v := (-14 : Int32)) hx hb dX5_within_8 (by decide) ?_
    refine W.widen (k := 1) (n := 300) (by decide) (by decide) ?_
    exact hret 10 (-14 : Int32) (vmHN, vmT, vmM, vmK, vmF, vmX, vmH) _ _ _ dX5_within_10 hw hP hD hS
