def w_X5_road_b90_B (N : Nat) (x1 : Int32) (x2 : Int32) (x3 : Int32) (post : Int32 → Int32 → (Nat → Int32) → (Nat → Int32) → (Nat → Int32) → (Nat → Int32) → Prop) (k90 : Int32 → (Nat → Int32) → (Nat → Int32) → (Nat → Int32) → (Nat → Int32) → Int32 → Int32 → Prop) (vmR_b90 : Int32) (vmLo_b90 : Nat → Int32) (vmHi_b90 : Nat → Int32) (vmC_b90 : Nat → Int32) (vmZ_b90 : Nat → Int32) (x5_b90 : Int32) (x6_b90 : Int32) : Prop :=
  ((x6_b90 ≤ x5_b90 → vp_in x5_b90 2000 ∧ post (vmR_b90 + (1 : Int32)) (vmR_b90 + (1 : Int32)) (upd vmLo_b90 x5_b90.toNatClampNeg (if x2 < x1 then x2 else x1)) (upd vmHi_b90 x5_b90.toNatClampNeg (if x1 < x2 then x2 else x1)) (upd vmC_b90 x5_b90.toNatClampNeg x3) (upd vmZ_b90 x5_b90.toNatClampNeg (vp_nar .boolean (0 : Int32)))) ∧ (¬ (x6_b90 ≤ x5_b90) → vp_in (x6_b90 - (1 : Int32)) 2000 ∧ vp_in x6_b90 2000 ∧ ∀ x6_16 : Int32, x6_16 = x6_b90 + (-1 : Int32) → k90 vmR_b90 (upd vmLo_b90 x6_b90.toNatClampNeg (vmLo_b90 (x6_b90 - (1 : Int32)).toNatClampNeg)) (upd vmHi_b90 x6_b90.toNatClampNeg (vmHi_b90 (x6_b90 - (1 : Int32)).toNatClampNeg)) (upd vmC_b90 x6_b90.toNatClampNeg (vmC_b90 (x6_b90 - (1 : Int32)).toNatClampNeg)) (upd vmZ_b90 x6_b90.toNatClampNeg (vp_nar .boolean (vmZ_b90 (x6_b90 - (1 : Int32)).toNatClampNeg))) x5_b90 x6_16))
def w_X5_road_b90 (N : Nat) (x1 : Int32) (x2 : Int32) (x3 : Int32) (post : Int32 → Int32 → (Nat → Int32) → (Nat → Int32) → (Nat → Int32) → (Nat → Int32) → Prop) : Nat → Int32 → (Nat → Int32) → (Nat → Int32) → (Nat → Int32) → (Nat → Int32) → Int32 → Int32 → Prop
  | 0, _, _, _, _, _, _, _ => False
  | n + 1, vmR_b90, vmLo_b90, vmHi_b90, vmC_b90, vmZ_b90, x5_b90, x6_b90 => w_X5_road_b90_B N x1 x2 x3 post (w_X5_road_b90 N x1 x2 x3 post n) vmR_b90 vmLo_b90 vmHi_b90 vmC_b90 vmZ_b90 x5_b90 x6_b90
def w_X5_road (N : Nat) (vmN : Int32) (vmR : Int32) (vmLo : Nat → Int32) (vmHi : Nat → Int32) (vmC : Nat → Int32) (vmZ : Nat → Int32) (x1 : Int32) (x2 : Int32) (x3 : Int32) (post : Int32 → Int32 → (Nat → Int32) → (Nat → Int32) → (Nat → Int32) → (Nat → Int32) → Prop) : Prop :=
  w_X5_isNode N vmN x1 (fun r_1 => ((r_1 = (0 : Int32) → post (-14 : Int32) vmR vmLo vmHi vmC vmZ) ∧ (¬ (r_1 = (0 : Int32)) → w_X5_isNode N vmN x2 (fun r_3 => ((r_3 = (0 : Int32) → post (-14 : Int32) vmR vmLo vmHi vmC vmZ) ∧ (¬ (r_3 = (0 : Int32)) → ((¬ x1 = x2 → ((x3 < (1 : Int32) → post (-1 : Int32) vmR vmLo vmHi vmC vmZ) ∧ (¬ (x3 < (1 : Int32)) → ((x3 ≤ (1000000000 : Int32) → w_X5_find N vmR vmLo vmHi x1 x2 (fun r_8 => ((r_8 < (0 : Int32) → ((¬ vmR = (2000 : Int32) → w_X5_placeOf N vmR vmLo vmHi x1 x2 (fun r_11 => w_X5_road_b90 N x1 x2 x3 post N vmR vmLo vmHi vmC vmZ r_11 vmR)) ∧ (vmR = (2000 : Int32) → post (-12 : Int32) vmR vmLo vmHi vmC vmZ))) ∧ (¬ (r_8 < (0 : Int32)) → vp_in r_8 2000 ∧ post vmR vmR vmLo vmHi (upd vmC r_8.toNatClampNeg x3) vmZ)))) ∧ (¬ (x3 ≤ (1000000000 : Int32)) → post (-1 : Int32) vmR vmLo vmHi vmC vmZ))))) ∧ (x1 = x2 → post (-14 : Int32) vmR vmLo vmHi vmC vmZ))))))))
abbrev rm_X5_road : Room := { frames := 3, cells := 0, slots := 0, locals := 71 }
set_option maxHeartbeats 4000000 in
set_option maxRecDepth 100000 in
theorem k_X5_road (l : Launch) (G : va_G) (cI cJ cZ : ClassId) (aM aM1 aM2 aM3 aM4 aM6 aM8 aM9 aM10 aM11 aM12 aM13 aM15 : Nat) (sz N : Nat) (vmN : Int32) (vmR : Int32) (vmBN : Int32) (vmHN : Int32) (vmL : Int32) (vmLo : Nat → Int32) (vmHi : Nat → Int32) (vmC : Nat → Int32) (vmZ : Nat → Int32) (vmB : Nat → Int32) (vmT : Nat → Int64) (vmM : Nat → Int32) (vmK : Nat → Int32) (vmF : Nat → Int32) (vmX : Nat → Int32) (vmH : Nat → Int32) (vmRow : Nat → Int32) (x1 : Int32) (x2 : Int32) (x3 : Int32) (post : Int32 → Int32 → (Nat → Int32) → (Nat → Int32) → (Nat → Int32) → (Nat → Int32) → Prop) (hw : w_X5_road N vmN vmR vmLo vmHi vmC vmZ x1 x2 x3 post) : Met l yX5_road wsX5_road rm_X5_road (kPc G (tyL cI cJ cZ) [.ref aM, .int x1, .int x2, .int x3] sz (wdM cI cJ cZ aM aM1 aM2 aM3 aM4 aM6 aM8 aM9 aM10 aM11 aM12 aM13 aM15 vmN vmR vmBN vmHN vmL vmLo vmHi vmC vmZ vmB vmT vmM vmK vmF vmX vmH vmRow)) (va_Qi (fun (r : Int32) (u : Int32 × (Nat → Int32) × (Nat → Int32) × (Nat → Int32) × (Nat → Int32)) => post r u.1 u.2.1 u.2.2.1 u.2.2.2.1 u.2.2.2.2) (kB G (tyL cI cJ cZ) (va_A (wdM cI cJ cZ aM aM1 aM2 aM3 aM4 aM6 aM8 aM9 aM10 aM11 aM12 aM13 aM15 vmN vmR vmBN vmHN vmL vmLo vmHi vmC vmZ vmB vmT vmM vmK vmF vmX vmH vmRow) sz) (fun (u : Int32 × (Nat → Int32) × (Nat → Int32) × (Nat → Int32) × (Nat → Int32)) => wdM cI cJ cZ aM aM1 aM2 aM3 aM4 aM6 aM8 aM9 aM10 aM11 aM12 aM13 aM15 vmN u.1 vmBN vmHN vmL u.2.1 u.2.2.1 u.2.2.2.1 u.2.2.2.2 vmB vmT vmM vmK vmF vmX vmH vmRow)) (va_A (wdM cI cJ cZ aM aM1 aM2 aM3 aM4 aM6 aM8 aM9 aM10 aM11 aM12 aM13 aM15 vmN vmR vmBN vmHN vmL vmLo vmHi vmC vmZ vmB vmT vmM vmK vmF vmX vmH vmRow) sz)) 0 0 (va_A (wdM cI cJ cZ aM aM1 aM2 aM3 aM4 aM6 aM8 aM9 aM10 aM11 aM12 aM13 aM15 vmN vmR vmBN vmHN vmL vmLo vmHi vmC vmZ vmB vmT vmM vmK vmF vmX vmH vmRow) sz) := by
  refine km_i (cc := cX5_road) (maxL := 7) (by decide) rfl (Nat.le_of_ble_eq_true rfl) ?_
  intro p e s m below meth c A Q ls hx hb hml hts hown hnm hK hN hA hP hD hS hl hret
  replace hown : s.vm.findClass RX5 = some m.cls := hown
  replace hl : lv_has ls 7 [(0, .ref aM), (1, .int x1), (2, .int x2), (3, .int x3)] := hl
  have b90 : ∀ (n90 : Nat) (vmR_b90 : Int32) (vmLo_b90 : Nat → Int32) (vmHi_b90 : Nat → Int32) (vmC_b90 : Nat → Int32) (vmZ_b90 : Nat → Int32) (x5_b90 : Int32) (x6_b90 : Int32) (H : Heap) (locs : List Loc) (ls : Array Slot), w_X5_road_b90 N x1 x2 x3 post n90 vmR_b90 vmLo_b90 vmHi_b90 vmC_b90 vmZ_b90 x5_b90 x6_b90 → va_P G vwCl (wdM cI cJ cZ aM aM1 aM2 aM3 aM4 aM6 aM8 aM9 aM10 aM11 aM12 aM13 aM15 vmN vmR_b90 vmBN vmHN vmL vmLo_b90 vmHi_b90 vmC_b90 vmZ_b90 vmB vmT vmM vmK vmF vmX vmH vmRow) H → va_D A (wdM cI cJ cZ aM aM1 aM2 aM3 aM4 aM6 aM8 aM9 aM10 aM11 aM12 aM13 aM15 vmN vmR_b90 vmBN vmHN vmL vmLo_b90 vmHi_b90 vmC_b90 vmZ_b90 vmB vmT vmM vmK vmF vmX vmH vmRow) → va_S A s.heap H locs → lv_has ls 7 [(0, .ref aM), (1, .int x1), (2, .int x2), (3, .int x3), (5, .int x5_b90), (6, .int x6_b90)] → W p l e rm_X5_road s m ([.ref aM, .int x1, .int x2, .int x3] : List Value).toArray below meth c H locs 0 0 Q (F0 m 90 ls []) := by
    intro n90
    induction n90 with
    | zero => intro vmR_b90 vmLo_b90 vmHi_b90 vmC_b90 vmZ_b90 x5_b90 x6_b90 H locs ls hw; exact hw.elim
    | succ n90 ih90 =>
      intro vmR_b90 vmLo_b90 vmHi_b90 vmC_b90 vmZ_b90 x5_b90 x6_b90 H locs ls hw hP hD hS hl
      replace hw : w_X5_road_b90_B N x1 x2 x3 post (w_X5_road_b90 N x1 x2 x3 post n90) vmR_b90 vmLo_b90 vmHi_b90 vmC_b90 vmZ_b90 x5_b90 x6_b90 := hw
      unfold w_X5_road_b90_B at hw
      refine lv_iload hx hb dX5_road_90 (lv_at hl 5 rfl) ?_
      refine lv_iload hx hb dX5_road_92 (lv_at hl 4 rfl) ?_
      refine lv_icmp_le (tgt := 167) hx hb dX5_road_94 (by decide) (fun c_12 => ?_) (fun c_12 => ?_)
      · replace hw := hw.1 c_12
        refine lv_aload_n hx hb dX5_road_167 rfl (lv_at hl 0 rfl) ?_
        refine va_get (D := G) (ci := 5) (v := .ref aM1) (C := RX5) (T := TX5) (N := 17) hx hb hts (fun _ h => List.mem_cons_of_mem _ (List.mem_append_right _ h)) hown hK hP 0 rfl rfl 1 (by decide) (hts _ (List.mem_of_getElem? (i := 4) rfl)) (fun _ h9 => h9) rfl dX5_road_168 ?_
        refine lv_iload hx hb dX5_road_171 (lv_at hl 4 rfl) ?_
        refine lv_iload_n hx hb dX5_road_173 rfl (lv_at hl 1 rfl) ?_
        refine lv_iload_n hx hb dX5_road_174 rfl (lv_at hl 2 rfl) ?_
        refine va_mmin hx hb (by rw [hml]; exact hl.1.symm) hown (hts _ (List.mem_of_getElem? (i := 7) rfl)) (hts _ (List.mem_of_getElem? (i := 8) rfl)) (hts _ (List.mem_of_getElem? (i := 9) rfl)) (hts _ (List.mem_of_getElem? (i := 10) rfl)) (Nat.le_of_ble_eq_true rfl) (Nat.le_of_ble_eq_true rfl) (Nat.le_of_ble_eq_true rfl) (Nat.le_of_ble_eq_true rfl) dX5_road_175 ?_
        have h_13 := hw.1
        replace hw := hw.2
        refine va_iast hx hb hK hP hD hS 1 0 rfl rfl h_13 dX5_road_178 (fun H locs hP hD hS => ?_)
        replace hP : va_P G vwCl (wdM cI cJ cZ aM aM1 aM2 aM3 aM4 aM6 aM8 aM9 aM10 aM11 aM12 aM13 aM15 vmN vmR_b90 vmBN vmHN vmL (upd vmLo_b90 x5_b90.toNatClampNeg (if x2 < x1 then x2 else x1)) vmHi_b90 vmC_b90 vmZ_b90 vmB vmT vmM vmK vmF vmX vmH vmRow) H := hP
        replace hD : va_D A (wdM cI cJ cZ aM aM1 aM2 aM3 aM4 aM6 aM8 aM9 aM10 aM11 aM12 aM13 aM15 vmN vmR_b90 vmBN vmHN vmL (upd vmLo_b90 x5_b90.toNatClampNeg (if x2 < x1 then x2 else x1)) vmHi_b90 vmC_b90 vmZ_b90 vmB vmT vmM vmK vmF vmX vmH vmRow) := hD
        refine lv_aload_n hx hb dX5_road_179 rfl (lv_at hl 0 rfl) ?_
        refine va_get (D := G) (ci := 5) (v := .ref aM2) (C := RX5) (T := TX5) (N := 17) hx hb hts (fun _ h => List.mem_cons_of_mem _ (List.mem_append_right _ h)) hown hK hP 0 rfl rfl 2 (by decide) (hts _ (List.mem_of_getElem? (i := 5) rfl)) (fun _ h9 => h9) rfl dX5_road_180 ?_
        refine lv_iload hx hb dX5_road_183 (lv_at hl 4 rfl) ?_
        refine lv_iload_n hx hb dX5_road_185 rfl (lv_at hl 1 rfl) ?_
        refine lv_iload_n hx hb dX5_road_186 rfl (lv_at hl 2 rfl) ?_
        refine va_mmax hx hb (by rw [hml]; exact hl.1.symm) hown (hts _ (List.mem_of_getElem? (i := 11) rfl)) (hts _ (List.mem_of_getElem? (i := 12) rfl)) (hts _ (List.mem_of_getElem? (i := 9) rfl)) (hts _ (List.mem_of_getElem? (i := 13) rfl)) (Nat.le_of_ble_eq_true rfl) (Nat.le_of_ble_eq_true rfl) (Nat.le_of_ble_eq_true rfl) (Nat.le_of_ble_eq_true rfl) dX5_road_187 ?_
        refine va_iast hx hb hK hP hD hS 2 0 rfl rfl h_13 dX5_road_190 (fun H locs hP hD hS => ?_)
        replace hP : va_P G vwCl (wdM cI cJ cZ aM aM1 aM2 aM3 aM4 aM6 aM8 aM9 aM10 aM11 aM12 aM13 aM15 vmN vmR_b90 vmBN vmHN vmL (upd vmLo_b90 x5_b90.toNatClampNeg (if x2 < x1 then x2 else x1)) (upd vmHi_b90 x5_b90.toNatClampNeg (if x1 < x2 then x2 else x1)) vmC_b90 vmZ_b90 vmB vmT vmM vmK vmF vmX vmH vmRow) H := hP
        replace hD : va_D A (wdM cI cJ cZ aM aM1 aM2 aM3 aM4 aM6 aM8 aM9 aM10 aM11 aM12 aM13 aM15 vmN vmR_b90 vmBN vmHN vmL (upd vmLo_b90 x5_b90.toNatClampNeg (if x2 < x1 then x2 else x1)) (upd vmHi_b90 x5_b90.toNatClampNeg (if x1 < x2 then x2 else x1)) vmC_b90 vmZ_b90 vmB vmT vmM vmK vmF vmX vmH vmRow) := hD
        refine lv_aload_n hx hb dX5_road_191 rfl (lv_at hl 0 rfl) ?_
        refine va_get (D := G) (ci := 5) (v := .ref aM3) (C := RX5) (T := TX5) (N := 17) hx hb hts (fun _ h => List.mem_cons_of_mem _ (List.mem_append_right _ h)) hown hK hP 0 rfl rfl 3 (by decide) (hts _ (List.mem_of_getElem? (i := 2) rfl)) (fun _ h9 => h9) rfl dX5_road_192 ?_
        refine lv_iload hx hb dX5_road_195 (lv_at hl 4 rfl) ?_
        refine lv_iload_n hx hb dX5_road_197 rfl (lv_at hl 3 rfl) ?_
        refine va_iast hx hb hK hP hD hS 3 0 rfl rfl h_13 dX5_road_198 (fun H locs hP hD hS => ?_)
        replace hP : va_P G vwCl (wdM cI cJ cZ aM aM1 aM2 aM3 aM4 aM6 aM8 aM9 aM10 aM11 aM12 aM13 aM15 vmN vmR_b90 vmBN vmHN vmL (upd vmLo_b90 x5_b90.toNatClampNeg (if x2 < x1 then x2 else x1)) (upd vmHi_b90 x5_b90.toNatClampNeg (if x1 < x2 then x2 else x1)) (upd vmC_b90 x5_b90.toNatClampNeg x3) vmZ_b90 vmB vmT vmM vmK vmF vmX vmH vmRow) H := hP
        replace hD : va_D A (wdM cI cJ cZ aM aM1 aM2 aM3 aM4 aM6 aM8 aM9 aM10 aM11 aM12 aM13 aM15 vmN vmR_b90 vmBN vmHN vmL (upd vmLo_b90 x5_b90.toNatClampNeg (if x2 < x1 then x2 else x1)) (upd vmHi_b90 x5_b90.toNatClampNeg (if x1 < x2 then x2 else x1)) (upd vmC_b90 x5_b90.toNatClampNeg x3) vmZ_b90 vmB vmT vmM vmK vmF vmX vmH vmRow) := hD
        refine lv_aload_n hx hb dX5_road_199 rfl (lv_at hl 0 rfl) ?_
        refine va_get (D := G) (ci := 5) (v := .ref aM4) (C := RX5) (T := TX5) (N := 17) hx hb hts (fun _ h => List.mem_cons_of_mem _ (List.mem_append_right _ h)) hown hK hP 0 rfl rfl 4 (by decide) (hts _ (List.mem_of_getElem? (i := 6) rfl)) (fun _ h9 => h9) rfl dX5_road_200 ?_
        refine lv_iload hx hb dX5_road_203 (lv_at hl 4 rfl) ?_
        refine lv_iconst (v := (0 : Int32)) hx hb dX5_road_205 (by decide) ?_
        refine va_zast hx hb hK hP hD hS 4 2 rfl rfl h_13 dX5_road_206 (fun H locs hP hD hS => ?_)
        replace hP : va_P G vwCl (wdM cI cJ cZ aM aM1 aM2 aM3 aM4 aM6 aM8 aM9 aM10 aM11 aM12 aM13 aM15 vmN vmR_b90 vmBN vmHN vmL (upd vmLo_b90 x5_b90.toNatClampNeg (if x2 < x1 then x2 else x1)) (upd vmHi_b90 x5_b90.toNatClampNeg (if x1 < x2 then x2 else x1)) (upd vmC_b90 x5_b90.toNatClampNeg x3) (upd vmZ_b90 x5_b90.toNatClampNeg (vp_nar .boolean (0 : Int32))) vmB vmT vmM vmK vmF vmX vmH vmRow) H := hP
        replace hD : va_D A (wdM cI cJ cZ aM aM1 aM2 aM3 aM4 aM6 aM8 aM9 aM10 aM11 aM12 aM13 aM15 vmN vmR_b90 vmBN vmHN vmL (upd vmLo_b90 x5_b90.toNatClampNeg (if x2 < x1 then x2 else x1)) (upd vmHi_b90 x5_b90.toNatClampNeg (if x1 < x2 then x2 else x1)) (upd vmC_b90 x5_b90.toNatClampNeg x3) (upd vmZ_b90 x5_b90.toNatClampNeg (vp_nar .boolean (0 : Int32))) vmB vmT vmM vmK vmF vmX vmH vmRow) := hD
        refine lv_aload_n hx hb dX5_road_207 rfl (lv_at hl 0 rfl) ?_
        refine lv_dup hx hb dX5_road_208 rfl ?_
        refine va_get (D := G) (ci := 5) (v := .int vmR_b90) (C := RX5) (T := TX5) (N := 17) hx hb hts (fun _ h => List.mem_cons_of_mem _ (List.mem_append_right _ h)) hown hK hP 0 rfl rfl 5 (by decide) (hts _ (List.mem_of_getElem? (i := 3) rfl)) (fun _ h9 => h9) rfl dX5_road_209 ?_
        refine lv_iconst (v := (1 : Int32)) hx hb dX5_road_212 (by decide) ?_
        refine lv_iadd hx hb dX5_road_213 ?_
        refine va_put (D := G) (ci := 5) (v := .int (vmR_b90 + (1 : Int32))) (ty := .int) (C := RX5) (T := TX5) (N := 17) hx hb hts (fun _ h => List.mem_cons_of_mem _ (List.mem_append_right _ h)) tyX5 tyX5_ok nmX5 hown hK hP hD hS 0 rfl rfl 5 (by decide) (hts _ (List.mem_of_getElem? (i := 3) rfl)) (fun _ h9 => h9) rfl (by decide +kernel) rfl rfl (Nat.le_of_ble_eq_true rfl) dX5_road_214 (fun H locs hP hD hS => ?_)
        replace hP : va_P G vwCl (wdM cI cJ cZ aM aM1 aM2 aM3 aM4 aM6 aM8 aM9 aM10 aM11 aM12 aM13 aM15 vmN (vmR_b90 + (1 : Int32)) vmBN vmHN vmL (upd vmLo_b90 x5_b90.toNatClampNeg (if x2 < x1 then x2 else x1)) (upd vmHi_b90 x5_b90.toNatClampNeg (if x1 < x2 then x2 else x1)) (upd vmC_b90 x5_b90.toNatClampNeg x3) (upd vmZ_b90 x5_b90.toNatClampNeg (vp_nar .boolean (0 : Int32))) vmB vmT vmM vmK vmF vmX vmH vmRow) H := hP
        replace hD : va_D A (wdM cI cJ cZ aM aM1 aM2 aM3 aM4 aM6 aM8 aM9 aM10 aM11 aM12 aM13 aM15 vmN (vmR_b90 + (1 : Int32)) vmBN vmHN vmL (upd vmLo_b90 x5_b90.toNatClampNeg (if x2 < x1 then x2 else x1)) (upd vmHi_b90 x5_b90.toNatClampNeg (if x1 < x2 then x2 else x1)) (upd vmC_b90 x5_b90.toNatClampNeg x3) (upd vmZ_b90 x5_b90.toNatClampNeg (vp_nar .boolean (0 : Int32))) vmB vmT vmM vmK vmF vmX vmH vmRow) := hD
        refine lv_aload_n hx hb dX5_road_217 rfl (lv_at hl 0 rfl) ?_
        refine va_get (D := G) (ci := 5) (v := .int (vmR_b90 + (1 : Int32))) (C := RX5) (T := TX5) (N := 17) hx hb hts (fun _ h => List.mem_cons_of_mem _ (List.mem_append_right _ h)) hown hK hP 0 rfl rfl 5 (by decide) (hts _ (List.mem_of_getElem? (i := 3) rfl)) (fun _ h9 => h9) rfl dX5_road_218 ?_
        exact hret 221 (vmR_b90 + (1 : Int32)) ((vmR_b90 + (1 : Int32)), (upd vmLo_b90 x5_b90.toNatClampNeg (if x2 < x1 then x2 else x1)), (upd vmHi_b90 x5_b90.toNatClampNeg (if x1 < x2 then x2 else x1)), (upd vmC_b90 x5_b90.toNatClampNeg x3), (upd vmZ_b90 x5_b90.toNatClampNeg (vp_nar .boolean (0 : Int32)))) _ _ _ dX5_road_221 hw hP hD hS
      · replace hw := hw.2 c_12
        refine lv_aload_n hx hb dX5_road_97 rfl (lv_at hl 0 rfl) ?_
        refine va_get (D := G) (ci := 5) (v := .ref aM1) (C := RX5) (T := TX5) (N := 17) hx hb hts (fun _ h => List.mem_cons_of_mem _ (List.mem_append_right _ h)) hown hK hP 0 rfl rfl 1 (by decide) (hts _ (List.mem_of_getElem? (i := 4) rfl)) (fun _ h9 => h9) rfl dX5_road_98 ?_
        refine lv_iload hx hb dX5_road_101 (lv_at hl 5 rfl) ?_
        refine lv_aload_n hx hb dX5_road_103 rfl (lv_at hl 0 rfl) ?_
        refine va_get (D := G) (ci := 5) (v := .ref aM1) (C := RX5) (T := TX5) (N := 17) hx hb hts (fun _ h => List.mem_cons_of_mem _ (List.mem_append_right _ h)) hown hK hP 0 rfl rfl 1 (by decide) (hts _ (List.mem_of_getElem? (i := 4) rfl)) (fun _ h9 => h9) rfl dX5_road_104 ?_
        refine lv_iload hx hb dX5_road_107 (lv_at hl 5 rfl) ?_
        refine lv_iconst (v := (1 : Int32)) hx hb dX5_road_109 (by decide) ?_
        refine lv_isub hx hb dX5_road_110 ?_
        have h_14 := hw.1
        replace hw := hw.2
        refine va_iald hx hb hK hP 1 0 rfl rfl h_14 dX5_road_111 ?_
        have h_15 := hw.1
        replace hw := hw.2
        refine va_iast hx hb hK hP hD hS 1 0 rfl rfl h_15 dX5_road_112 (fun H locs hP hD hS => ?_)
        replace hP : va_P G vwCl (wdM cI cJ cZ aM aM1 aM2 aM3 aM4 aM6 aM8 aM9 aM10 aM11 aM12 aM13 aM15 vmN vmR_b90 vmBN vmHN vmL (upd vmLo_b90 x6_b90.toNatClampNeg (vmLo_b90 (x6_b90 - (1 : Int32)).toNatClampNeg)) vmHi_b90 vmC_b90 vmZ_b90 vmB vmT vmM vmK vmF vmX vmH vmRow) H := hP
        replace hD : va_D A (wdM cI cJ cZ aM aM1 aM2 aM3 aM4 aM6 aM8 aM9 aM10 aM11 aM12 aM13 aM15 vmN vmR_b90 vmBN vmHN vmL (upd vmLo_b90 x6_b90.toNatClampNeg (vmLo_b90 (x6_b90 - (1 : Int32)).toNatClampNeg)) vmHi_b90 vmC_b90 vmZ_b90 vmB vmT vmM vmK vmF vmX vmH vmRow) := hD
        refine lv_aload_n hx hb dX5_road_113 rfl (lv_at hl 0 rfl) ?_
        refine va_get (D := G) (ci := 5) (v := .ref aM2) (C := RX5) (T := TX5) (N := 17) hx hb hts (fun _ h => List.mem_cons_of_mem _ (List.mem_append_right _ h)) hown hK hP 0 rfl rfl 2 (by decide) (hts _ (List.mem_of_getElem? (i := 5) rfl)) (fun _ h9 => h9) rfl dX5_road_114 ?_
        refine lv_iload hx hb dX5_road_117 (lv_at hl 5 rfl) ?_
        refine lv_aload_n hx hb dX5_road_119 rfl (lv_at hl 0 rfl) ?_
        refine va_get (D := G) (ci := 5) (v := .ref aM2) (C := RX5) (T := TX5) (N := 17) hx hb hts (fun _ h => List.mem_cons_of_mem _ (List.mem_append_right _ h)) hown hK hP 0 rfl rfl 2 (by decide) (hts _ (List.mem_of_getElem? (i := 5) rfl)) (fun _ h9 => h9) rfl dX5_road_120 ?_
        refine lv_iload hx hb dX5_road_123 (lv_at hl 5 rfl) ?_
        refine lv_iconst (v := (1 : Int32)) hx hb dX5_road_125 (by decide) ?_
        refine lv_isub hx hb dX5_road_126 ?_
        refine va_iald hx hb hK hP 2 0 rfl rfl h_14 dX5_road_127 ?_
        refine va_iast hx hb hK hP hD hS 2 0 rfl rfl h_15 dX5_road_128 (fun H locs hP hD hS => ?_)
        replace hP : va_P G vwCl (wdM cI cJ cZ aM aM1 aM2 aM3 aM4 aM6 aM8 aM9 aM10 aM11 aM12 aM13 aM15 vmN vmR_b90 vmBN vmHN vmL (upd vmLo_b90 x6_b90.toNatClampNeg (vmLo_b90 (x6_b90 - (1 : Int32)).toNatClampNeg)) (upd vmHi_b90 x6_b90.toNatClampNeg (vmHi_b90 (x6_b90 - (1 : Int32)).toNatClampNeg)) vmC_b90 vmZ_b90 vmB vmT vmM vmK vmF vmX vmH vmRow) H := hP
        replace hD : va_D A (wdM cI cJ cZ aM aM1 aM2 aM3 aM4 aM6 aM8 aM9 aM10 aM11 aM12 aM13 aM15 vmN vmR_b90 vmBN vmHN vmL (upd vmLo_b90 x6_b90.toNatClampNeg (vmLo_b90 (x6_b90 - (1 : Int32)).toNatClampNeg)) (upd vmHi_b90 x6_b90.toNatClampNeg (vmHi_b90 (x6_b90 - (1 : Int32)).toNatClampNeg)) vmC_b90 vmZ_b90 vmB vmT vmM vmK vmF vmX vmH vmRow) := hD
        refine lv_aload_n hx hb dX5_road_129 rfl (lv_at hl 0 rfl) ?_
        refine va_get (D := G) (ci := 5) (v := .ref aM3) (C := RX5) (T := TX5) (N := 17) hx hb hts (fun _ h => List.mem_cons_of_mem _ (List.mem_append_right _ h)) hown hK hP 0 rfl rfl 3 (by decide) (hts _ (List.mem_of_getElem? (i := 2) rfl)) (fun _ h9 => h9) rfl dX5_road_130 ?_
        refine lv_iload hx hb dX5_road_133 (lv_at hl 5 rfl) ?_
        refine lv_aload_n hx hb dX5_road_135 rfl (lv_at hl 0 rfl) ?_
        refine va_get (D := G) (ci := 5) (v := .ref aM3) (C := RX5) (T := TX5) (N := 17) hx hb hts (fun _ h => List.mem_cons_of_mem _ (List.mem_append_right _ h)) hown hK hP 0 rfl rfl 3 (by decide) (hts _ (List.mem_of_getElem? (i := 2) rfl)) (fun _ h9 => h9) rfl dX5_road_136 ?_
        refine lv_iload hx hb dX5_road_139 (lv_at hl 5 rfl) ?_
        refine lv_iconst (v := (1 : Int32)) hx hb dX5_road_141 (by decide) ?_
        refine lv_isub hx hb dX5_road_142 ?_
        refine va_iald hx hb hK hP 3 0 rfl rfl h_14 dX5_road_143 ?_
        refine va_iast hx hb hK hP hD hS 3 0 rfl rfl h_15 dX5_road_144 (fun H locs hP hD hS => ?_)
        replace hP : va_P G vwCl (wdM cI cJ cZ aM aM1 aM2 aM3 aM4 aM6 aM8 aM9 aM10 aM11 aM12 aM13 aM15 vmN vmR_b90 vmBN vmHN vmL (upd vmLo_b90 x6_b90.toNatClampNeg (vmLo_b90 (x6_b90 - (1 : Int32)).toNatClampNeg)) (upd vmHi_b90 x6_b90.toNatClampNeg (vmHi_b90 (x6_b90 - (1 : Int32)).toNatClampNeg)) (upd vmC_b90 x6_b90.toNatClampNeg (vmC_b90 (x6_b90 - (1 : Int32)).toNatClampNeg)) vmZ_b90 vmB vmT vmM vmK vmF vmX vmH vmRow) H := hP
        replace hD : va_D A (wdM cI cJ cZ aM aM1 aM2 aM3 aM4 aM6 aM8 aM9 aM10 aM11 aM12 aM13 aM15 vmN vmR_b90 vmBN vmHN vmL (upd vmLo_b90 x6_b90.toNatClampNeg (vmLo_b90 (x6_b90 - (1 : Int32)).toNatClampNeg)) (upd vmHi_b90 x6_b90.toNatClampNeg (vmHi_b90 (x6_b90 - (1 : Int32)).toNatClampNeg)) (upd vmC_b90 x6_b90.toNatClampNeg (vmC_b90 (x6_b90 - (1 : Int32)).toNatClampNeg)) vmZ_b90 vmB vmT vmM vmK vmF vmX vmH vmRow) := hD
        refine lv_aload_n hx hb dX5_road_145 rfl (lv_at hl 0 rfl) ?_
        refine va_get (D := G) (ci := 5) (v := .ref aM4) (C := RX5) (T := TX5) (N := 17) hx hb hts (fun _ h => List.mem_cons_of_mem _ (List.mem_append_right _ h)) hown hK hP 0 rfl rfl 4 (by decide) (hts _ (List.mem_of_getElem? (i := 6) rfl)) (fun _ h9 => h9) rfl dX5_road_146 ?_
        refine lv_iload hx hb dX5_road_149 (lv_at hl 5 rfl) ?_
        refine lv_aload_n hx hb dX5_road_151 rfl (lv_at hl 0 rfl) ?_
        refine va_get (D := G) (ci := 5) (v := .ref aM4) (C := RX5) (T := TX5) (N := 17) hx hb hts (fun _ h => List.mem_cons_of_mem _ (List.mem_append_right _ h)) hown hK hP 0 rfl rfl 4 (by decide) (hts _ (List.mem_of_getElem? (i := 6) rfl)) (fun _ h9 => h9) rfl dX5_road_152 ?_
        refine lv_iload hx hb dX5_road_155 (lv_at hl 5 rfl) ?_
        refine lv_iconst (v := (1 : Int32)) hx hb dX5_road_157 (by decide) ?_
        refine lv_isub hx hb dX5_road_158 ?_
        refine va_zald hx hb hK hP 4 2 rfl rfl h_14 dX5_road_159 ?_
        refine va_zast hx hb hK hP hD hS 4 2 rfl rfl h_15 dX5_road_160 (fun H locs hP hD hS => ?_)
        replace hP : va_P G vwCl (wdM cI cJ cZ aM aM1 aM2 aM3 aM4 aM6 aM8 aM9 aM10 aM11 aM12 aM13 aM15 vmN vmR_b90 vmBN vmHN vmL (upd vmLo_b90 x6_b90.toNatClampNeg (vmLo_b90 (x6_b90 - (1 : Int32)).toNatClampNeg)) (upd vmHi_b90 x6_b90.toNatClampNeg (vmHi_b90 (x6_b90 - (1 : Int32)).toNatClampNeg)) (upd vmC_b90 x6_b90.toNatClampNeg (vmC_b90 (x6_b90 - (1 : Int32)).toNatClampNeg)) (upd vmZ_b90 x6_b90.toNatClampNeg (vp_nar .boolean (vmZ_b90 (x6_b90 - (1 : Int32)).toNatClampNeg))) vmB vmT vmM vmK vmF vmX vmH vmRow) H := hP
        replace hD : va_D A (wdM cI cJ cZ aM aM1 aM2 aM3 aM4 aM6 aM8 aM9 aM10 aM11 aM12 aM13 aM15 vmN vmR_b90 vmBN vmHN vmL (upd vmLo_b90 x6_b90.toNatClampNeg (vmLo_b90 (x6_b90 - (1 : Int32)).toNatClampNeg)) (upd vmHi_b90 x6_b90.toNatClampNeg (vmHi_b90 (x6_b90 - (1 : Int32)).toNatClampNeg)) (upd vmC_b90 x6_b90.toNatClampNeg (vmC_b90 (x6_b90 - (1 : Int32)).toNatClampNeg)) (upd vmZ_b90 x6_b90.toNatClampNeg (vp_nar .boolean (vmZ_b90 (x6_b90 - (1 : Int32)).toNatClampNeg))) vmB vmT vmM vmK vmF vmX vmH vmRow) := hD
        obtain ⟨x6_16, e_17⟩ : ∃ y : Int32, y = x6_b90 + (-1 : Int32) := ⟨_, rfl⟩
        replace hw := hw x6_16 e_17
        refine lv_iinc (v := x6_16) (lv' := [(6, .int x6_16), (0, .ref aM), (1, .int x1), (2, .int x2), (3, .int x3), (5, .int x5_b90)]) hx hb dX5_road_161 hl (k := 5) rfl (by rw [e_17]; rfl) (by decide) rfl (fun ls hl => ?_)
        refine lv_goto (tgt := 90) hx hb dX5_road_164 (by decide) ?_
        replace hl : lv_has ls 7 [(0, .ref aM), (1, .int x1), (2, .int x2), (3, .int x3), (5, .int x5_b90), (6, .int x6_16)] := lv_sub hl [1, 2, 3, 4, 5, 0] rfl
        exact ih90 vmR_b90 (upd vmLo_b90 x6_b90.toNatClampNeg (vmLo_b90 (x6_b90 - (1 : Int32)).toNatClampNeg)) (upd vmHi_b90 x6_b90.toNatClampNeg (vmHi_b90 (x6_b90 - (1 : Int32)).toNatClampNeg)) (upd vmC_b90 x6_b90.toNatClampNeg (vmC_b90 (x6_b90 - (1 : Int32)).toNatClampNeg)) (upd vmZ_b90 x6_b90.toNatClampNeg (vp_nar .boolean (vmZ_b90 (x6_b90 - (1 : Int32)).toNatClampNeg))) x5_b90 x6_16 _ _ _ hw hP hD hS hl
  unfold w_X5_road at hw
  refine lv_aload_n hx hb dX5_road_0 rfl (lv_at hl 0 rfl) ?_
  refine lv_iload_n hx hb dX5_road_1 rfl (lv_at hl 1 rfl) ?_
  refine kc_Vi (As := [.int x1]) (rest := []) (wc := wdM cI cJ cZ aM aM1 aM2 aM3 aM4 aM6 aM8 aM9 aM10 aM11 aM12 aM13 aM15 vmN vmR vmBN vmHN vmL vmLo vmHi vmC vmZ vmB vmT vmM vmK vmF vmX vmH vmRow) (wr := []) ⟨hx, hb, hml, hown, hts⟩ (cwV 1 hts gX5_road_X5_isNode rfl rfl rfl (by decide +kernel) ⟨Nat.le_of_ble_eq_true rfl, Nat.le_of_ble_eq_true rfl⟩) hK hN hA hP hD hS [0, 1, 2, 3, 4, 5, 6, 7, 8, 9, 10, 11, 12] [] rfl rfl (by decide) (by decide) (by decide) 0 rfl rfl (k_X5_isNode l G cI cJ cZ aM aM1 aM2 aM3 aM4 aM6 aM8 aM9 aM10 aM11 aM12 aM13 aM15 _ N vmN vmR vmBN vmHN vmL vmLo vmHi vmC vmZ vmB vmT vmM vmK vmF vmX vmH vmRow x1 _ hw) rfl hl.1 rfl (Nat.le_of_ble_eq_true rfl) dX5_road_2 ⟨Nat.le_of_ble_eq_true rfl, Nat.le_of_ble_eq_true rfl⟩ (fun r_1 u_ H locs hw hP hD hS => ?_)
  replace hP : va_P G vwCl (wdM cI cJ cZ aM aM1 aM2 aM3 aM4 aM6 aM8 aM9 aM10 aM11 aM12 aM13 aM15 vmN vmR vmBN vmHN vmL vmLo vmHi vmC vmZ vmB vmT vmM vmK vmF vmX vmH vmRow) H := hP.sub [0, 1, 2, 3, 4, 5, 6, 7, 8, 9, 10, 11, 12] rfl
  replace hD : va_D A (wdM cI cJ cZ aM aM1 aM2 aM3 aM4 aM6 aM8 aM9 aM10 aM11 aM12 aM13 aM15 vmN vmR vmBN vmHN vmL vmLo vmHi vmC vmZ vmB vmT vmM vmK vmF vmX vmH vmRow) := hD.sub [0, 1, 2, 3, 4, 5, 6, 7, 8, 9, 10, 11, 12] (by decide) rfl
  refine lv_if_eq (tgt := 21) hx hb dX5_road_5 (by decide) (fun c_2 => ?_) (fun c_2 => ?_)
  · replace hw := hw.1 c_2
    refine lv_bipush (v := (-14 : Int32)) hx hb dX5_road_21 (by decide) ?_
    exact hret 23 (-14 : Int32) (vmR, vmLo, vmHi, vmC, vmZ) _ _ _ dX5_road_23 hw hP hD hS
  · replace hw := hw.2 c_2
    refine lv_aload_n hx hb dX5_road_8 rfl (lv_at hl 0 rfl) ?_
    refine lv_iload_n hx hb dX5_road_9 rfl (lv_at hl 2 rfl) ?_
    refine kc_Vi (As := [.int x2]) (rest := []) (wc := wdM cI cJ cZ aM aM1 aM2 aM3 aM4 aM6 aM8 aM9 aM10 aM11 aM12 aM13 aM15 vmN vmR vmBN vmHN vmL vmLo vmHi vmC vmZ vmB vmT vmM vmK vmF vmX vmH vmRow) (wr := []) ⟨hx, hb, hml, hown, hts⟩ (cwV 1 hts gX5_road_X5_isNode rfl rfl rfl (by decide +kernel) ⟨Nat.le_of_ble_eq_true rfl, Nat.le_of_ble_eq_true rfl⟩) hK hN hA hP hD hS [0, 1, 2, 3, 4, 5, 6, 7, 8, 9, 10, 11, 12] [] rfl rfl (by decide) (by decide) (by decide) 0 rfl rfl (k_X5_isNode l G cI cJ cZ aM aM1 aM2 aM3 aM4 aM6 aM8 aM9 aM10 aM11 aM12 aM13 aM15 _ N vmN vmR vmBN vmHN vmL vmLo vmHi vmC vmZ vmB vmT vmM vmK vmF vmX vmH vmRow x2 _ hw) rfl hl.1 rfl (Nat.le_of_ble_eq_true rfl) dX5_road_10 ⟨Nat.le_of_ble_eq_true rfl, Nat.le_of_ble_eq_true rfl⟩ (fun r_3 u_ H locs hw hP hD hS => ?_)
    replace hP : va_P G vwCl (wdM cI cJ cZ aM aM1 aM2 aM3 aM4 aM6 aM8 aM9 aM10 aM11 aM12 aM13 aM15 vmN vmR vmBN vmHN vmL vmLo vmHi vmC vmZ vmB vmT vmM vmK vmF vmX vmH vmRow) H := hP.sub [0, 1, 2, 3, 4, 5, 6, 7, 8, 9, 10, 11, 12] rfl
    replace hD : va_D A (wdM cI cJ cZ aM aM1 aM2 aM3 aM4 aM6 aM8 aM9 aM10 aM11 aM12 aM13 aM15 vmN vmR vmBN vmHN vmL vmLo vmHi vmC vmZ vmB vmT vmM vmK vmF vmX vmH vmRow) := hD.sub [0, 1, 2, 3, 4, 5, 6, 7, 8, 9, 10, 11, 12] (by decide) rfl
    refine lv_if_eq (tgt := 21) hx hb dX5_road_13 (by decide) (fun c_4 => ?_) (fun c_4 => ?_)
    · replace hw := hw.1 c_4
      refine lv_bipush (v := (-14 : Int32)) hx hb dX5_road_21 (by decide) ?_
      exact hret 23 (-14 : Int32) (vmR, vmLo, vmHi, vmC, vmZ) _ _ _ dX5_road_23 hw hP hD hS
    · replace hw := hw.2 c_4
      refine lv_iload_n hx hb dX5_road_16 rfl (lv_at hl 1 rfl) ?_
      refine lv_iload_n hx hb dX5_road_17 rfl (lv_at hl 2 rfl) ?_
      refine lv_icmp_ne (tgt := 24) hx hb dX5_road_18 (by decide) (fun c_5 => ?_) (fun c_5 => ?_)
      · replace hw := hw.1 c_5
        refine lv_iload_n hx hb dX5_road_24 rfl (lv_at hl 3 rfl) ?_
        refine lv_iconst (v := (1 : Int32)) hx hb dX5_road_25 (by decide) ?_
        refine lv_icmp_lt (tgt := 35) hx hb dX5_road_26 (by decide) (fun c_6 => ?_) (fun c_6 => ?_)
        · replace hw := hw.1 c_6
          refine lv_iconst (v := (-1 : Int32)) hx hb dX5_road_35 (by decide) ?_
          exact hret 36 (-1 : Int32) (vmR, vmLo, vmHi, vmC, vmZ) _ _ _ dX5_road_36 hw hP hD hS
        · replace hw := hw.2 c_6
          refine lv_iload_n hx hb dX5_road_29 rfl (lv_at hl 3 rfl) ?_
          refine lv_ldc (v := (1000000000 : Int32)) hx hb hown (hts _ (List.mem_of_getElem? (i := 1) rfl)) dX5_road_30 ?_
          refine lv_icmp_le (tgt := 37) hx hb dX5_road_32 (by decide) (fun c_7 => ?_) (fun c_7 => ?_)
          · replace hw := hw.1 c_7
            refine lv_aload_n hx hb dX5_road_37 rfl (lv_at hl 0 rfl) ?_
            refine lv_iload_n hx hb dX5_road_38 rfl (lv_at hl 1 rfl) ?_
            refine lv_iload_n hx hb dX5_road_39 rfl (lv_at hl 2 rfl) ?_
            refine kc_Vi (As := [.int x1, .int x2]) (rest := []) (wc := wdM cI cJ cZ aM aM1 aM2 aM3 aM4 aM6 aM8 aM9 aM10 aM11 aM12 aM13 aM15 vmN vmR vmBN vmHN vmL vmLo vmHi vmC vmZ vmB vmT vmM vmK vmF vmX vmH vmRow) (wr := []) ⟨hx, hb, hml, hown, hts⟩ (cwV 2 hts gX5_road_X5_find rfl rfl rfl (by decide +kernel) ⟨Nat.le_of_ble_eq_true rfl, Nat.le_of_ble_eq_true rfl⟩) hK hN hA hP hD hS [0, 1, 2, 3, 4, 5, 6, 7, 8, 9, 10, 11, 12] [] rfl rfl (by decide) (by decide) (by decide) 0 rfl rfl (k_X5_find l G cI cJ cZ aM aM1 aM2 aM3 aM4 aM6 aM8 aM9 aM10 aM11 aM12 aM13 aM15 _ N vmN vmR vmBN vmHN vmL vmLo vmHi vmC vmZ vmB vmT vmM vmK vmF vmX vmH vmRow x1 x2 _ hw) rfl hl.1 rfl (Nat.le_of_ble_eq_true rfl) dX5_road_40 ⟨Nat.le_of_ble_eq_true rfl, Nat.le_of_ble_eq_true rfl⟩ (fun r_8 u_ H locs hw hP hD hS => ?_)
            replace hP : va_P G vwCl (wdM cI cJ cZ aM aM1 aM2 aM3 aM4 aM6 aM8 aM9 aM10 aM11 aM12 aM13 aM15 vmN vmR vmBN vmHN vmL vmLo vmHi vmC vmZ vmB vmT vmM vmK vmF vmX vmH vmRow) H := hP.sub [0, 1, 2, 3, 4, 5, 6, 7, 8, 9, 10, 11, 12] rfl
            replace hD : va_D A (wdM cI cJ cZ aM aM1 aM2 aM3 aM4 aM6 aM8 aM9 aM10 aM11 aM12 aM13 aM15 vmN vmR vmBN vmHN vmL vmLo vmHi vmC vmZ vmB vmT vmM vmK vmF vmX vmH vmRow) := hD.sub [0, 1, 2, 3, 4, 5, 6, 7, 8, 9, 10, 11, 12] (by decide) rfl
            refine lv_istore (lv' := [(4, .int r_8), (0, .ref aM), (1, .int x1), (2, .int x2), (3, .int x3)]) hx hb dX5_road_43 hl (by decide) rfl (fun ls hl => ?_)
            refine lv_iload hx hb dX5_road_45 (lv_at hl 0 rfl) ?_
            refine lv_if_lt (tgt := 63) hx hb dX5_road_47 (by decide) (fun c_9 => ?_) (fun c_9 => ?_)
            · replace hw := hw.1 c_9
              refine lv_aload_n hx hb dX5_road_63 rfl (lv_at hl 1 rfl) ?_
              refine va_get (D := G) (ci := 5) (v := .int vmR) (C := RX5) (T := TX5) (N := 17) hx hb hts (fun _ h => List.mem_cons_of_mem _ (List.mem_append_right _ h)) hown hK hP 0 rfl rfl 5 (by decide) (hts _ (List.mem_of_getElem? (i := 3) rfl)) (fun _ h9 => h9) rfl dX5_road_64 ?_
              refine lv_sipush (v := (2000 : Int32)) hx hb dX5_road_67 (by decide) ?_
              refine lv_icmp_ne (tgt := 76) hx hb dX5_road_70 (by decide) (fun c_10 => ?_) (fun c_10 => ?_)
              · replace hw := hw.1 c_10
                refine lv_aload_n hx hb dX5_road_76 rfl (lv_at hl 1 rfl) ?_
                refine lv_iload_n hx hb dX5_road_77 rfl (lv_at hl 2 rfl) ?_
                refine lv_iload_n hx hb dX5_road_78 rfl (lv_at hl 3 rfl) ?_
                refine kc_Vi (As := [.int x1, .int x2]) (rest := []) (wc := wdM cI cJ cZ aM aM1 aM2 aM3 aM4 aM6 aM8 aM9 aM10 aM11 aM12 aM13 aM15 vmN vmR vmBN vmHN vmL vmLo vmHi vmC vmZ vmB vmT vmM vmK vmF vmX vmH vmRow) (wr := []) ⟨hx, hb, hml, hown, hts⟩ (cwV 2 hts gX5_road_X5_placeOf rfl rfl rfl (by decide +kernel) ⟨Nat.le_of_ble_eq_true rfl, Nat.le_of_ble_eq_true rfl⟩) hK hN hA hP hD hS [0, 1, 2, 3, 4, 5, 6, 7, 8, 9, 10, 11, 12] [] rfl rfl (by decide) (by decide) (by decide) 0 rfl rfl (k_X5_placeOf l G cI cJ cZ aM aM1 aM2 aM3 aM4 aM6 aM8 aM9 aM10 aM11 aM12 aM13 aM15 _ N vmN vmR vmBN vmHN vmL vmLo vmHi vmC vmZ vmB vmT vmM vmK vmF vmX vmH vmRow x1 x2 _ hw) rfl hl.1 rfl (Nat.le_of_ble_eq_true rfl) dX5_road_79 ⟨Nat.le_of_ble_eq_true rfl, Nat.le_of_ble_eq_true rfl⟩ (fun r_11 u_ H locs hw hP hD hS => ?_)
                replace hP : va_P G vwCl (wdM cI cJ cZ aM aM1 aM2 aM3 aM4 aM6 aM8 aM9 aM10 aM11 aM12 aM13 aM15 vmN vmR vmBN vmHN vmL vmLo vmHi vmC vmZ vmB vmT vmM vmK vmF vmX vmH vmRow) H := hP.sub [0, 1, 2, 3, 4, 5, 6, 7, 8, 9, 10, 11, 12] rfl
                replace hD : va_D A (wdM cI cJ cZ aM aM1 aM2 aM3 aM4 aM6 aM8 aM9 aM10 aM11 aM12 aM13 aM15 vmN vmR vmBN vmHN vmL vmLo vmHi vmC vmZ vmB vmT vmM vmK vmF vmX vmH vmRow) := hD.sub [0, 1, 2, 3, 4, 5, 6, 7, 8, 9, 10, 11, 12] (by decide) rfl
                refine lv_istore (lv' := [(5, .int r_11), (4, .int r_8), (0, .ref aM), (1, .int x1), (2, .int x2), (3, .int x3)]) hx hb dX5_road_82 hl (by decide) rfl (fun ls hl => ?_)
                refine lv_aload_n hx hb dX5_road_84 rfl (lv_at hl 2 rfl) ?_
                refine va_get (D := G) (ci := 5) (v := .int vmR) (C := RX5) (T := TX5) (N := 17) hx hb hts (fun _ h => List.mem_cons_of_mem _ (List.mem_append_right _ h)) hown hK hP 0 rfl rfl 5 (by decide) (hts _ (List.mem_of_getElem? (i := 3) rfl)) (fun _ h9 => h9) rfl dX5_road_85 ?_
                refine lv_istore (lv' := [(6, .int vmR), (5, .int r_11), (4, .int r_8), (0, .ref aM), (1, .int x1), (2, .int x2), (3, .int x3)]) hx hb dX5_road_88 hl (by decide) rfl (fun ls hl => ?_)
                replace hl : lv_has ls 7 [(0, .ref aM), (1, .int x1), (2, .int x2), (3, .int x3), (5, .int r_11), (6, .int vmR)] := lv_sub hl [3, 4, 5, 6, 1, 0] rfl
                exact b90 N vmR vmLo vmHi vmC vmZ r_11 vmR _ _ _ hw hP hD hS hl
              · replace hw := hw.2 c_10
                refine lv_bipush (v := (-12 : Int32)) hx hb dX5_road_73 (by decide) ?_
                exact hret 75 (-12 : Int32) (vmR, vmLo, vmHi, vmC, vmZ) _ _ _ dX5_road_75 hw hP hD hS
            · replace hw := hw.2 c_9
              refine lv_aload_n hx hb dX5_road_50 rfl (lv_at hl 1 rfl) ?_
              refine va_get (D := G) (ci := 5) (v := .ref aM3) (C := RX5) (T := TX5) (N := 17) hx hb hts (fun _ h => List.mem_cons_of_mem _ (List.mem_append_right _ h)) hown hK hP 0 rfl rfl 3 (by decide) (hts _ (List.mem_of_getElem? (i := 2) rfl)) (fun _ h9 => h9) rfl dX5_road_51 ?_
              refine lv_iload hx hb dX5_road_54 (lv_at hl 0 rfl) ?_
              refine lv_iload_n hx hb dX5_road_56 rfl (lv_at hl 4 rfl) ?_
              have h_18 := hw.1
              replace hw := hw.2
              refine va_iast hx hb hK hP hD hS 3 0 rfl rfl h_18 dX5_road_57 (fun H locs hP hD hS => ?_)
              replace hP : va_P G vwCl (wdM cI cJ cZ aM aM1 aM2 aM3 aM4 aM6 aM8 aM9 aM10 aM11 aM12 aM13 aM15 vmN vmR vmBN vmHN vmL vmLo vmHi (upd vmC r_8.toNatClampNeg x3) vmZ vmB vmT vmM vmK vmF vmX vmH vmRow) H := hP
              replace hD : va_D A (wdM cI cJ cZ aM aM1 aM2 aM3 aM4 aM6 aM8 aM9 aM10 aM11 aM12 aM13 aM15 vmN vmR vmBN vmHN vmL vmLo vmHi (upd vmC r_8.toNatClampNeg x3) vmZ vmB vmT vmM vmK vmF vmX vmH vmRow) := hD
              refine lv_aload_n hx hb dX5_road_58 rfl (lv_at hl 1 rfl) ?_
              refine va_get (D := G) (ci := 5) (v := .int vmR) (C := RX5) (T := TX5) (N := 17) hx hb hts (fun _ h => List.mem_cons_of_mem _ (List.mem_append_right _ h)) hown hK hP 0 rfl rfl 5 (by decide) (hts _ (List.mem_of_getElem? (i := 3) rfl)) (fun _ h9 => h9) rfl dX5_road_59 ?_
              exact hret 62 vmR (vmR, vmLo, vmHi, (upd vmC r_8.toNatClampNeg x3), vmZ) _ _ _ dX5_road_62 hw hP hD hS
          · replace hw := hw.2 c_7
            refine lv_iconst (v := (-1 : Int32)) hx hb dX5_road_35 (by decide) ?_
            exact hret 36 (-1 : Int32) (vmR, vmLo, vmHi, vmC, vmZ) _ _ _ dX5_road_36 hw hP hD hS
      · replace hw := hw.2 c_5
        refine lv_bipush (v := (-14 : Int32)) hx hb dX5_road_21 (by decide) ?_
        exact hret 23 (-14 : Int32) (vmR, vmLo, vmHi, vmC, vmZ) _ _ _ dX5_road_23 hw hP hD hS
def w_X5_bar_b84_B (N : Nat)  (post : Int32 → Int32 → (Nat → Int32) → Prop) (k84 : Int32 → (Nat → Int32) → Int32 → Int32 → Prop) (vmBN_b84 : Int32) (vmB_b84 : Nat → Int32) (x5_b84 : Int32) (x6_b84 : Int32) : Prop :=
  (((3 : Int32) ≤ x6_b84 → post vmBN_b84 vmBN_b84 vmB_b84) ∧ (¬ ((3 : Int32) ≤ x6_b84) → vp_in (((3 : Int32) * vmBN_b84) + x6_b84) 600 ∧ vp_in (((3 : Int32) * x5_b84) + x6_b84) 600 ∧ ∀ x6_20 : Int32, x6_20 = x6_b84 + (1 : Int32) → k84 vmBN_b84 (upd vmB_b84 (((3 : Int32) * x5_b84) + x6_b84).toNatClampNeg (vmB_b84 (((3 : Int32) * vmBN_b84) + x6_b84).toNatClampNeg)) x5_b84 x6_20))
def w_X5_bar_b84 (N : Nat)  (post : Int32 → Int32 → (Nat → Int32) → Prop) : Nat → Int32 → (Nat → Int32) → Int32 → Int32 → Prop
  | 0, _, _, _, _ => False
  | n + 1, vmBN_b84, vmB_b84, x5_b84, x6_b84 => w_X5_bar_b84_B N post (w_X5_bar_b84 N post n) vmBN_b84 vmB_b84 x5_b84 x6_b84
def w_X5_bar_b56 (N : Nat) (x1 : Int32) (x2 : Int32) (x3 : Int32) (x4 : Int32) (post : Int32 → Int32 → (Nat → Int32) → Prop) (vmBN_b56 : Int32) (vmB_b56 : Nat → Int32) (x5_b56 : Int32) (y0_b56 : Int32) : Prop :=
  ((¬ y0_b56 = x4 → ((¬ x4 = (0 : Int32) → ((¬ vmBN_b56 = (200 : Int32) → vp_in ((3 : Int32) * vmBN_b56) 600 ∧ vp_in (((3 : Int32) * vmBN_b56) + (1 : Int32)) 600 ∧ vp_in (((3 : Int32) * vmBN_b56) + (2 : Int32)) 600 ∧ post (vmBN_b56 + (1 : Int32)) (vmBN_b56 + (1 : Int32)) (upd (upd (upd vmB_b56 ((3 : Int32) * vmBN_b56).toNatClampNeg x1) (((3 : Int32) * vmBN_b56) + (1 : Int32)).toNatClampNeg x2) (((3 : Int32) * vmBN_b56) + (2 : Int32)).toNatClampNeg x3)) ∧ (vmBN_b56 = (200 : Int32) → post (-12 : Int32) vmBN_b56 vmB_b56))) ∧ (x4 = (0 : Int32) → w_X5_bar_b84 N  post N (vmBN_b56 - (1 : Int32)) vmB_b56 x5_b56 (0 : Int32)))) ∧ (y0_b56 = x4 → post vmBN_b56 vmBN_b56 vmB_b56))
def w_X5_bar (N : Nat) (vmN : Int32) (vmBN : Int32) (vmB : Nat → Int32) (x1 : Int32) (x2 : Int32) (x3 : Int32) (x4 : Int32) (post : Int32 → Int32 → (Nat → Int32) → Prop) : Prop :=
  w_X5_isNode N vmN x1 (fun r_1 => ((r_1 = (0 : Int32) → post (-14 : Int32) vmBN vmB) ∧ (¬ (r_1 = (0 : Int32)) → w_X5_isNode N vmN x2 (fun r_3 => ((r_3 = (0 : Int32) → post (-14 : Int32) vmBN vmB) ∧ (¬ (r_3 = (0 : Int32)) → w_X5_isNode N vmN x3 (fun r_5 => ((r_5 = (0 : Int32) → post (-14 : Int32) vmBN vmB) ∧ (¬ (r_5 = (0 : Int32)) → ((x1 = x2 → post (-14 : Int32) vmBN vmB) ∧ (¬ (x1 = x2) → ((¬ x2 = x3 → w_X5_barAt N vmBN vmB x1 x2 x3 (fun r_9 => ((r_9 < (0 : Int32) → w_X5_bar_b56 N x1 x2 x3 x4 post vmBN vmB r_9 (0 : Int32)) ∧ (¬ (r_9 < (0 : Int32)) → w_X5_bar_b56 N x1 x2 x3 x4 post vmBN vmB r_9 (1 : Int32))))) ∧ (x2 = x3 → post (-14 : Int32) vmBN vmB)))))))))))))
abbrev rm_X5_bar : Room := { frames := 1, cells := 0, slots := 0, locals := 24 }
set_option maxHeartbeats 4000000 in
set_option maxRecDepth 100000 in
theorem k_X5_bar (l : Launch) (G : va_G) (cI cJ cZ : ClassId) (aM aM1 aM2 aM3 aM4 aM6 aM8 aM9 aM10 aM11 aM12 aM13 aM15 : Nat) (sz N : Nat) (vmN : Int32) (vmR : Int32) (vmBN : Int32) (vmHN : Int32) (vmL : Int32) (vmLo : Nat → Int32) (vmHi : Nat → Int32) (vmC : Nat → Int32) (vmZ : Nat → Int32) (vmB : Nat → Int32) (vmT : Nat → Int64) (vmM : Nat → Int32) (vmK : Nat → Int32) (vmF : Nat → Int32) (vmX : Nat → Int32) (vmH : Nat → Int32) (vmRow : Nat → Int32) (x1 : Int32) (x2 : Int32) (x3 : Int32) (x4 : Int32) (post : Int32 → Int32 → (Nat → Int32) → Prop) (hw : w_X5_bar N vmN vmBN vmB x1 x2 x3 x4 post) : Met l yX5_bar wsX5_bar rm_X5_bar (kPc G (tyL cI cJ cZ) [.ref aM, .int x1, .int x2, .int x3, .int x4] sz (wdM cI cJ cZ aM aM1 aM2 aM3 aM4 aM6 aM8 aM9 aM10 aM11 aM12 aM13 aM15 vmN vmR vmBN vmHN vmL vmLo vmHi vmC vmZ vmB vmT vmM vmK vmF vmX vmH vmRow)) (va_Qi (fun (r : Int32) (u : Int32 × (Nat → Int32)) => post r u.1 u.2) (kB G (tyL cI cJ cZ) (va_A (wdM cI cJ cZ aM aM1 aM2 aM3 aM4 aM6 aM8 aM9 aM10 aM11 aM12 aM13 aM15 vmN vmR vmBN vmHN vmL vmLo vmHi vmC vmZ vmB vmT vmM vmK vmF vmX vmH vmRow) sz) (fun (u : Int32 × (Nat → Int32)) => wdM cI cJ cZ aM aM1 aM2 aM3 aM4 aM6 aM8 aM9 aM10 aM11 aM12 aM13 aM15 vmN vmR u.1 vmHN vmL vmLo vmHi vmC vmZ u.2 vmT vmM vmK vmF vmX vmH vmRow)) (va_A (wdM cI cJ cZ aM aM1 aM2 aM3 aM4 aM6 aM8 aM9 aM10 aM11 aM12 aM13 aM15 vmN vmR vmBN vmHN vmL vmLo vmHi vmC vmZ vmB vmT vmM vmK vmF vmX vmH vmRow) sz)) 0 0 (va_A (wdM cI cJ cZ aM aM1 aM2 aM3 aM4 aM6 aM8 aM9 aM10 aM11 aM12 aM13 aM15 vmN vmR vmBN vmHN vmL vmLo vmHi vmC vmZ vmB vmT vmM vmK vmF vmX vmH vmRow) sz) := by
  refine km_i (cc := cX5_bar) (maxL := 7) (by decide) rfl (Nat.le_of_ble_eq_true rfl) ?_
  intro p e s m below meth c A Q ls hx hb hml hts hown hnm hK hN hA hP hD hS hl hret
  replace hown : s.vm.findClass RX5 = some m.cls := hown
  replace hl : lv_has ls 7 [(0, .ref aM), (1, .int x1), (2, .int x2), (3, .int x3), (4, .int x4)] := hl
  have b84 : ∀ (n84 : Nat) (vmBN_b84 : Int32) (vmB_b84 : Nat → Int32) (x5_b84 : Int32) (x6_b84 : Int32) (H : Heap) (locs : List Loc) (ls : Array Slot), w_X5_bar_b84 N post n84 vmBN_b84 vmB_b84 x5_b84 x6_b84 → va_P G vwCl (wdM cI cJ cZ aM aM1 aM2 aM3 aM4 aM6 aM8 aM9 aM10 aM11 aM12 aM13 aM15 vmN vmR vmBN_b84 vmHN vmL vmLo vmHi vmC vmZ vmB_b84 vmT vmM vmK vmF vmX vmH vmRow) H → va_D A (wdM cI cJ cZ aM aM1 aM2 aM3 aM4 aM6 aM8 aM9 aM10 aM11 aM12 aM13 aM15 vmN vmR vmBN_b84 vmHN vmL vmLo vmHi vmC vmZ vmB_b84 vmT vmM vmK vmF vmX vmH vmRow) → va_S A s.heap H locs → lv_has ls 7 [(0, .ref aM), (5, .int x5_b84), (6, .int x6_b84)] → W p l e rm_X5_bar s m ([.ref aM, .int x1, .int x2, .int x3, .int x4] : List Value).toArray below meth c H locs 0 0 Q (F0 m 84 ls []) := by
    intro n84
    induction n84 with
    | zero => intro vmBN_b84 vmB_b84 x5_b84 x6_b84 H locs ls hw; exact hw.elim
    | succ n84 ih84 =>
      intro vmBN_b84 vmB_b84 x5_b84 x6_b84 H locs ls hw hP hD hS hl
      replace hw : w_X5_bar_b84_B N post (w_X5_bar_b84 N post n84) vmBN_b84 vmB_b84 x5_b84 x6_b84 := hw
      unfold w_X5_bar_b84_B at hw
      refine lv_iload hx hb dX5_bar_84 (lv_at hl 2 rfl) ?_
      refine lv_iconst (v := (3 : Int32)) hx hb dX5_bar_86 (by decide) ?_
      refine lv_icmp_ge (tgt := 122) hx hb dX5_bar_87 (by decide) (fun c_17 => ?_) (fun c_17 => ?_)
      · replace hw := hw.1 c_17
        refine lv_aload_n hx hb dX5_bar_122 rfl (lv_at hl 0 rfl) ?_
        refine va_get (D := G) (ci := 5) (v := .int vmBN_b84) (C := RX5) (T := TX5) (N := 17) hx hb hts (fun _ h => List.mem_cons_of_mem _ (List.mem_append_right _ h)) hown hK hP 0 rfl rfl 7 (by decide) (hts _ (List.mem_of_getElem? (i := 1) rfl)) (fun _ h9 => h9) rfl dX5_bar_123 ?_
        exact hret 126 vmBN_b84 (vmBN_b84, vmB_b84) _ _ _ dX5_bar_126 hw hP hD hS
      · replace hw := hw.2 c_17
        refine lv_aload_n hx hb dX5_bar_90 rfl (lv_at hl 0 rfl) ?_
        refine va_get (D := G) (ci := 5) (v := .ref aM6) (C := RX5) (T := TX5) (N := 17) hx hb hts (fun _ h => List.mem_cons_of_mem _ (List.mem_append_right _ h)) hown hK hP 0 rfl rfl 6 (by decide) (hts _ (List.mem_of_getElem? (i := 2) rfl)) (fun _ h9 => h9) rfl dX5_bar_91 ?_
        refine lv_iconst (v := (3 : Int32)) hx hb dX5_bar_94 (by decide) ?_
        refine lv_iload hx hb dX5_bar_95 (lv_at hl 1 rfl) ?_
        refine lv_imul hx hb dX5_bar_97 ?_
        refine lv_iload hx hb dX5_bar_98 (lv_at hl 2 rfl) ?_
        refine lv_iadd hx hb dX5_bar_100 ?_
        refine lv_aload_n hx hb dX5_bar_101 rfl (lv_at hl 0 rfl) ?_
        refine va_get (D := G) (ci := 5) (v := .ref aM6) (C := RX5) (T := TX5) (N := 17) hx hb hts (fun _ h => List.mem_cons_of_mem _ (List.mem_append_right _ h)) hown hK hP 0 rfl rfl 6 (by decide) (hts _ (List.mem_of_getElem? (i := 2) rfl)) (fun _ h9 => h9) rfl dX5_bar_102 ?_
        refine lv_iconst (v := (3 : Int32)) hx hb dX5_bar_105 (by decide) ?_
        refine lv_aload_n hx hb dX5_bar_106 rfl (lv_at hl 0 rfl) ?_
        refine va_get (D := G) (ci := 5) (v := .int vmBN_b84) (C := RX5) (T := TX5) (N := 17) hx hb hts (fun _ h => List.mem_cons_of_mem _ (List.mem_append_right _ h)) hown hK hP 0 rfl rfl 7 (by decide) (hts _ (List.mem_of_getElem? (i := 1) rfl)) (fun _ h9 => h9) rfl dX5_bar_107 ?_
        refine lv_imul hx hb dX5_bar_110 ?_
        refine lv_iload hx hb dX5_bar_111 (lv_at hl 2 rfl) ?_
        refine lv_iadd hx hb dX5_bar_113 ?_
        have h_18 := hw.1
        replace hw := hw.2
        refine va_iald hx hb hK hP 5 0 rfl rfl h_18 dX5_bar_114 ?_
        have h_19 := hw.1
        replace hw := hw.2
        refine va_iast hx hb hK hP hD hS 5 0 rfl rfl h_19 dX5_bar_115 (fun H locs hP hD hS => ?_)
        replace hP : va_P G vwCl (wdM cI cJ cZ aM aM1 aM2 aM3 aM4 aM6 aM8 aM9 aM10 aM11 aM12 aM13 aM15 vmN vmR vmBN_b84 vmHN vmL vmLo vmHi vmC vmZ (upd vmB_b84 (((3 : Int32) * x5_b84) + x6_b84).toNatClampNeg (vmB_b84 (((3 : Int32) * vmBN_b84) + x6_b84).toNatClampNeg)) vmT vmM vmK vmF vmX vmH vmRow) H := hP
        replace hD : va_D A (wdM cI cJ cZ aM aM1 aM2 aM3 aM4 aM6 aM8 aM9 aM10 aM11 aM12 aM13 aM15 vmN vmR vmBN_b84 vmHN vmL vmLo vmHi vmC vmZ (upd vmB_b84 (((3 : Int32) * x5_b84) + x6_b84).toNatClampNeg (vmB_b84 (((3 : Int32) * vmBN_b84) + x6_b84).toNatClampNeg)) vmT vmM vmK vmF vmX vmH vmRow) := hD
        obtain ⟨x6_20, e_21⟩ : ∃ y : Int32, y = x6_b84 + (1 : Int32) := ⟨_, rfl⟩
        replace hw := hw x6_20 e_21
        refine lv_iinc (v := x6_20) (lv' := [(6, .int x6_20), (0, .ref aM), (5, .int x5_b84)]) hx hb dX5_bar_116 hl (k := 2) rfl (by rw [e_21]; rfl) (by decide) rfl (fun ls hl => ?_)
        refine lv_goto (tgt := 84) hx hb dX5_bar_119 (by decide) ?_
        replace hl : lv_has ls 7 [(0, .ref aM), (5, .int x5_b84), (6, .int x6_20)] := lv_sub hl [1, 2, 0] rfl
        exact ih84 vmBN_b84 (upd vmB_b84 (((3 : Int32) * x5_b84) + x6_b84).toNatClampNeg (vmB_b84 (((3 : Int32) * vmBN_b84) + x6_b84).toNatClampNeg)) x5_b84 x6_20 _ _ _ hw hP hD hS hl
  have b56 : ∀ (vmBN_b56 : Int32) (vmB_b56 : Nat → Int32) (x5_b56 : Int32) (y0_b56 : Int32) (H : Heap) (locs : List Loc) (ls : Array Slot), w_X5_bar_b56 N x1 x2 x3 x4 post vmBN_b56 vmB_b56 x5_b56 y0_b56 → va_P G vwCl (wdM cI cJ cZ aM aM1 aM2 aM3 aM4 aM6 aM8 aM9 aM10 aM11 aM12 aM13 aM15 vmN vmR vmBN_b56 vmHN vmL vmLo vmHi vmC vmZ vmB_b56 vmT vmM vmK vmF vmX vmH vmRow) H → va_D A (wdM cI cJ cZ aM aM1 aM2 aM3 aM4 aM6 aM8 aM9 aM10 aM11 aM12 aM13 aM15 vmN vmR vmBN_b56 vmHN vmL vmLo vmHi vmC vmZ vmB_b56 vmT vmM vmK vmF vmX vmH vmRow) → va_S A s.heap H locs → lv_has ls 7 [(0, .ref aM), (1, .int x1), (2, .int x2), (3, .int x3), (4, .int x4), (5, .int x5_b56)] → W p l e rm_X5_bar s m ([.ref aM, .int x1, .int x2, .int x3, .int x4] : List Value).toArray below meth c H locs 0 0 Q (F0 m 56 ls [.int y0_b56]) := by
    intro vmBN_b56 vmB_b56 x5_b56 y0_b56 H locs ls hw hP hD hS hl
    unfold w_X5_bar_b56 at hw
    refine lv_iload hx hb dX5_bar_56 (lv_at hl 4 rfl) ?_
    refine lv_icmp_ne (tgt := 66) hx hb dX5_bar_58 (by decide) (fun c_11 => ?_) (fun c_11 => ?_)
    · replace hw := hw.1 c_11
      refine lv_iload hx hb dX5_bar_66 (lv_at hl 4 rfl) ?_
      refine lv_if_ne (tgt := 127) hx hb dX5_bar_68 (by decide) (fun c_12 => ?_) (fun c_12 => ?_)
      · replace hw := hw.1 c_12
        refine lv_aload_n hx hb dX5_bar_127 rfl (lv_at hl 0 rfl) ?_
        refine va_get (D := G) (ci := 5) (v := .int vmBN_b56) (C := RX5) (T := TX5) (N := 17) hx hb hts (fun _ h => List.mem_cons_of_mem _ (List.mem_append_right _ h)) hown hK hP 0 rfl rfl 7 (by decide) (hts _ (List.mem_of_getElem? (i := 1) rfl)) (fun _ h9 => h9) rfl dX5_bar_128 ?_
        refine lv_sipush (v := (200 : Int32)) hx hb dX5_bar_131 (by decide) ?_
        refine lv_icmp_ne (tgt := 140) hx hb dX5_bar_134 (by decide) (fun c_13 => ?_) (fun c_13 => ?_)
        · replace hw := hw.1 c_13
          refine lv_aload_n hx hb dX5_bar_140 rfl (lv_at hl 0 rfl) ?_
          refine va_get (D := G) (ci := 5) (v := .ref aM6) (C := RX5) (T := TX5) (N := 17) hx hb hts (fun _ h => List.mem_cons_of_mem _ (List.mem_append_right _ h)) hown hK hP 0 rfl rfl 6 (by decide) (hts _ (List.mem_of_getElem? (i := 2) rfl)) (fun _ h9 => h9) rfl dX5_bar_141 ?_
          refine lv_iconst (v := (3 : Int32)) hx hb dX5_bar_144 (by decide) ?_
          refine lv_aload_n hx hb dX5_bar_145 rfl (lv_at hl 0 rfl) ?_
          refine va_get (D := G) (ci := 5) (v := .int vmBN_b56) (C := RX5) (T := TX5) (N := 17) hx hb hts (fun _ h => List.mem_cons_of_mem _ (List.mem_append_right _ h)) hown hK hP 0 rfl rfl 7 (by decide) (hts _ (List.mem_of_getElem? (i := 1) rfl)) (fun _ h9 => h9) rfl dX5_bar_146 ?_
          refine lv_imul hx hb dX5_bar_149 ?_
          refine lv_iload_n hx hb dX5_bar_150 rfl (lv_at hl 1 rfl) ?_
          have h_14 := hw.1
          replace hw := hw.2
          refine va_iast hx hb hK hP hD hS 5 0 rfl rfl h_14 dX5_bar_151 (fun H locs hP hD hS => ?_)
          replace hP : va_P G vwCl (wdM cI cJ cZ aM aM1 aM2 aM3 aM4 aM6 aM8 aM9 aM10 aM11 aM12 aM13 aM15 vmN vmR vmBN_b56 vmHN vmL vmLo vmHi vmC vmZ (upd vmB_b56 ((3 : Int32) * vmBN_b56).toNatClampNeg x1) vmT vmM vmK vmF vmX vmH vmRow) H := hP
          replace hD : va_D A (wdM cI cJ cZ aM aM1 aM2 aM3 aM4 aM6 aM8 aM9 aM10 aM11 aM12 aM13 aM15 vmN vmR vmBN_b56 vmHN vmL vmLo vmHi vmC vmZ (upd vmB_b56 ((3 : Int32) * vmBN_b56).toNatClampNeg x1) vmT vmM vmK vmF vmX vmH vmRow) := hD
          refine lv_aload_n hx hb dX5_bar_152 rfl (lv_at hl 0 rfl) ?_
          refine va_get (D := G) (ci := 5) (v := .ref aM6) (C := RX5) (T := TX5) (N := 17) hx hb hts (fun _ h => List.mem_cons_of_mem _ (List.mem_append_right _ h)) hown hK hP 0 rfl rfl 6 (by decide) (hts _ (List.mem_of_getElem? (i := 2) rfl)) (fun _ h9 => h9) rfl dX5_bar_153 ?_
          refine lv_iconst (v := (3 : Int32)) hx hb dX5_bar_156 (by decide) ?_
          refine lv_aload_n hx hb dX5_bar_157 rfl (lv_at hl 0 rfl) ?_
          refine va_get (D := G) (ci := 5) (v := .int vmBN_b56) (C := RX5) (T := TX5) (N := 17) hx hb hts (fun _ h => List.mem_cons_of_mem _ (List.mem_append_right _ h)) hown hK hP 0 rfl rfl 7 (by decide) (hts _ (List.mem_of_getElem? (i := 1) rfl)) (fun _ h9 => h9) rfl dX5_bar_158 ?_
          refine lv_imul hx hb dX5_bar_161 ?_
          refine lv_iconst (v := (1 : Int32)) hx hb dX5_bar_162 (by decide) ?_
          refine lv_iadd hx hb dX5_bar_163 ?_
          refine lv_iload_n hx hb dX5_bar_164 rfl (lv_at hl 2 rfl) ?_
          have h_15 := hw.1
          replace hw := hw.2
          refine va_iast hx hb hK hP hD hS 5 0 rfl rfl h_15 dX5_bar_165 (fun H locs hP hD hS => ?_)
          replace hP : va_P G vwCl (wdM cI cJ cZ aM aM1 aM2 aM3 aM4 aM6 aM8 aM9 aM10 aM11 aM12 aM13 aM15 vmN vmR vmBN_b56 vmHN vmL vmLo vmHi vmC vmZ (upd (upd vmB_b56 ((3 : Int32) * vmBN_b56).toNatClampNeg x1) (((3 : Int32) * vmBN_b56) + (1 : Int32)).toNatClampNeg x2) vmT vmM vmK vmF vmX vmH vmRow) H := hP
          replace hD : va_D A (wdM cI cJ cZ aM aM1 aM2 aM3 aM4 aM6 aM8 aM9 aM10 aM11 aM12 aM13 aM15 vmN vmR vmBN_b56 vmHN vmL vmLo vmHi vmC vmZ (upd (upd vmB_b56 ((3 : Int32) * vmBN_b56).toNatClampNeg x1) (((3 : Int32) * vmBN_b56) + (1 : Int32)).toNatClampNeg x2) vmT vmM vmK vmF vmX vmH vmRow) := hD
          refine lv_aload_n hx hb dX5_bar_166 rfl (lv_at hl 0 rfl) ?_
          refine va_get (D := G) (ci := 5) (v := .ref aM6) (C := RX5) (T := TX5) (N := 17) hx hb hts (fun _ h => List.mem_cons_of_mem _ (List.mem_append_right _ h)) hown hK hP 0 rfl rfl 6 (by decide) (hts _ (List.mem_of_getElem? (i := 2) rfl)) (fun _ h9 => h9) rfl dX5_bar_167 ?_
          refine lv_iconst (v := (3 : Int32)) hx hb dX5_bar_170 (by decide) ?_
          refine lv_aload_n hx hb dX5_bar_171 rfl (lv_at hl 0 rfl) ?_
          refine va_get (D := G) (ci := 5) (v := .int vmBN_b56) (C := RX5) (T := TX5) (N := 17) hx hb hts (fun _ h => List.mem_cons_of_mem _ (List.mem_append_right _ h)) hown hK hP 0 rfl rfl 7 (by decide) (hts _ (List.mem_of_getElem? (i := 1) rfl)) (fun _ h9 => h9) rfl dX5_bar_172 ?_
          refine lv_imul hx hb dX5_bar_175 ?_
          refine lv_iconst (v := (2 : Int32)) hx hb dX5_bar_176 (by decide) ?_
          refine lv_iadd hx hb dX5_bar_177 ?_
          refine lv_iload_n hx hb dX5_bar_178 rfl (lv_at hl 3 rfl) ?_
          have h_16 := hw.1
          replace hw := hw.2
          refine va_iast hx hb hK hP hD hS 5 0 rfl rfl h_16 dX5_bar_179 (fun H locs hP hD hS => ?_)
          replace hP : va_P G vwCl (wdM cI cJ cZ aM aM1 aM2 aM3 aM4 aM6 aM8 aM9 aM10 aM11 aM12 aM13 aM15 vmN vmR vmBN_b56 vmHN vmL vmLo vmHi vmC vmZ (upd (upd (upd vmB_b56 ((3 : Int32) * vmBN_b56).toNatClampNeg x1) (((3 : Int32) * vmBN_b56) + (1 : Int32)).toNatClampNeg x2) (((3 : Int32) * vmBN_b56) + (2 : Int32)).toNatClampNeg x3) vmT vmM vmK vmF vmX vmH vmRow) H := hP
          replace hD : va_D A (wdM cI cJ cZ aM aM1 aM2 aM3 aM4 aM6 aM8 aM9 aM10 aM11 aM12 aM13 aM15 vmN vmR vmBN_b56 vmHN vmL vmLo vmHi vmC vmZ (upd (upd (upd vmB_b56 ((3 : Int32) * vmBN_b56).toNatClampNeg x1) (((3 : Int32) * vmBN_b56) + (1 : Int32)).toNatClampNeg x2) (((3 : Int32) * vmBN_b56) + (2 : Int32)).toNatClampNeg x3) vmT vmM vmK vmF vmX vmH vmRow) := hD
          refine lv_aload_n hx hb dX5_bar_180 rfl (lv_at hl 0 rfl) ?_
          refine lv_dup hx hb dX5_bar_181 rfl ?_
          refine va_get (D := G) (ci := 5) (v := .int vmBN_b56) (C := RX5) (T := TX5) (N := 17) hx hb hts (fun _ h => List.mem_cons_of_mem _ (List.mem_append_right _ h)) hown hK hP 0 rfl rfl 7 (by decide) (hts _ (List.mem_of_getElem? (i := 1) rfl)) (fun _ h9 => h9) rfl dX5_bar_182 ?_
          refine lv_iconst (v := (1 : Int32)) hx hb dX5_bar_185 (by decide) ?_
          refine lv_iadd hx hb dX5_bar_186 ?_
          refine va_put (D := G) (ci := 5) (v := .int (vmBN_b56 + (1 : Int32))) (ty := .int) (C := RX5) (T := TX5) (N := 17) hx hb hts (fun _ h => List.mem_cons_of_mem _ (List.mem_append_right _ h)) tyX5 tyX5_ok nmX5 hown hK hP hD hS 0 rfl rfl 7 (by decide) (hts _ (List.mem_of_getElem? (i := 1) rfl)) (fun _ h9 => h9) rfl (by decide +kernel) rfl rfl (Nat.le_of_ble_eq_true rfl) dX5_bar_187 (fun H locs hP hD hS => ?_)
          replace hP : va_P G vwCl (wdM cI cJ cZ aM aM1 aM2 aM3 aM4 aM6 aM8 aM9 aM10 aM11 aM12 aM13 aM15 vmN vmR (vmBN_b56 + (1 : Int32)) vmHN vmL vmLo vmHi vmC vmZ (upd (upd (upd vmB_b56 ((3 : Int32) * vmBN_b56).toNatClampNeg x1) (((3 : Int32) * vmBN_b56) + (1 : Int32)).toNatClampNeg x2) (((3 : Int32) * vmBN_b56) + (2 : Int32)).toNatClampNeg x3) vmT vmM vmK vmF vmX vmH vmRow) H := hP
          replace hD : va_D A (wdM cI cJ cZ aM aM1 aM2 aM3 aM4 aM6 aM8 aM9 aM10 aM11 aM12 aM13 aM15 vmN vmR (vmBN_b56 + (1 : Int32)) vmHN vmL vmLo vmHi vmC vmZ (upd (upd (upd vmB_b56 ((3 : Int32) * vmBN_b56).toNatClampNeg x1) (((3 : Int32) * vmBN_b56) + (1 : Int32)).toNatClampNeg x2) (((3 : Int32) * vmBN_b56) + (2 : Int32)).toNatClampNeg x3) vmT vmM vmK vmF vmX vmH vmRow) := hD
          refine lv_aload_n hx hb dX5_bar_190 rfl (lv_at hl 0 rfl) ?_
          refine va_get (D := G) (ci := 5) (v := .int (vmBN_b56 + (1 : Int32))) (C := RX5) (T := TX5) (N := 17) hx hb hts (fun _ h => List.mem_cons_of_mem _ (List.mem_append_right _ h)) hown hK hP 0 rfl rfl 7 (by decide) (hts _ (List.mem_of_getElem? (i := 1) rfl)) (fun _ h9 => h9) rfl dX5_bar_191 ?_
          exact hret 194 (vmBN_b56 + (1 : Int32)) ((vmBN_b56 + (1 : Int32)), (upd (upd (upd vmB_b56 ((3 : Int32) * vmBN_b56).toNatClampNeg x1) (((3 : Int32) * vmBN_b56) + (1 : Int32)).toNatClampNeg x2) (((3 : Int32) * vmBN_b56) + (2 : Int32)).toNatClampNeg x3)) _ _ _ dX5_bar_194 hw hP hD hS
        · replace hw := hw.2 c_13
          refine lv_bipush (v := (-12 : Int32)) hx hb dX5_bar_137 (by decide) ?_
          exact hret 139 (-12 : Int32) (vmBN_b56, vmB_b56) _ _ _ dX5_bar_139 hw hP hD hS
      · replace hw := hw.2 c_12
        refine lv_aload_n hx hb dX5_bar_71 rfl (lv_at hl 0 rfl) ?_
        refine lv_dup hx hb dX5_bar_72 rfl ?_
        refine va_get (D := G) (ci := 5) (v := .int vmBN_b56) (C := RX5) (T := TX5) (N := 17) hx hb hts (fun _ h => List.mem_cons_of_mem _ (List.mem_append_right _ h)) hown hK hP 0 rfl rfl 7 (by decide) (hts _ (List.mem_of_getElem? (i := 1) rfl)) (fun _ h9 => h9) rfl dX5_bar_73 ?_
        refine lv_iconst (v := (1 : Int32)) hx hb dX5_bar_76 (by decide) ?_
        refine lv_isub hx hb dX5_bar_77 ?_
        refine va_put (D := G) (ci := 5) (v := .int (vmBN_b56 - (1 : Int32))) (ty := .int) (C := RX5) (T := TX5) (N := 17) hx hb hts (fun _ h => List.mem_cons_of_mem _ (List.mem_append_right _ h)) tyX5 tyX5_ok nmX5 hown hK hP hD hS 0 rfl rfl 7 (by decide) (hts _ (List.mem_of_getElem? (i := 1) rfl)) (fun _ h9 => h9) rfl (by decide +kernel) rfl rfl (Nat.le_of_ble_eq_true rfl) dX5_bar_78 (fun H locs hP hD hS => ?_)
        replace hP : va_P G vwCl (wdM cI cJ cZ aM aM1 aM2 aM3 aM4 aM6 aM8 aM9 aM10 aM11 aM12 aM13 aM15 vmN vmR (vmBN_b56 - (1 : Int32)) vmHN vmL vmLo vmHi vmC vmZ vmB_b56 vmT vmM vmK vmF vmX vmH vmRow) H := hP
        replace hD : va_D A (wdM cI cJ cZ aM aM1 aM2 aM3 aM4 aM6 aM8 aM9 aM10 aM11 aM12 aM13 aM15 vmN vmR (vmBN_b56 - (1 : Int32)) vmHN vmL vmLo vmHi vmC vmZ vmB_b56 vmT vmM vmK vmF vmX vmH vmRow) := hD
        refine lv_iconst (v := (0 : Int32)) hx hb dX5_bar_81 (by decide) ?_
        refine lv_istore (lv' := [(6, .int (0 : Int32)), (0, .ref aM), (1, .int x1), (2, .int x2), (3, .int x3), (4, .int x4), (5, .int x5_b56)]) hx hb dX5_bar_82 hl (by decide) rfl (fun ls hl => ?_)
        replace hl : lv_has ls 7 [(0, .ref aM), (5, .int x5_b56), (6, .int (0 : Int32))] := lv_sub hl [1, 6, 0] rfl
        exact b84 N (vmBN_b56 - (1 : Int32)) vmB_b56 x5_b56 (0 : Int32) _ _ _ hw hP hD hS hl
    · replace hw := hw.2 c_11
      refine lv_aload_n hx hb dX5_bar_61 rfl (lv_at hl 0 rfl) ?_
      refine va_get (D := G) (ci := 5) (v := .int vmBN_b56) (C := RX5) (T := TX5) (N := 17) hx hb hts (fun _ h => List.mem_cons_of_mem _ (List.mem_append_right _ h)) hown hK hP 0 rfl rfl 7 (by decide) (hts _ (List.mem_of_getElem? (i := 1) rfl)) (fun _ h9 => h9) rfl dX5_bar_62 ?_
      exact hret 65 vmBN_b56 (vmBN_b56, vmB_b56) _ _ _ dX5_bar_65 hw hP hD hS
  unfold w_X5_bar at hw
  refine lv_aload_n hx hb dX5_bar_0 rfl (lv_at hl 0 rfl) ?_
  refine lv_iload_n hx hb dX5_bar_1 rfl (lv_at hl 1 rfl) ?_
  refine kc_Vi (As := [.int x1]) (rest := []) (wc := wdM cI cJ cZ aM aM1 aM2 aM3 aM4 aM6 aM8 aM9 aM10 aM11 aM12 aM13 aM15 vmN vmR vmBN vmHN vmL vmLo vmHi vmC vmZ vmB vmT vmM vmK vmF vmX vmH vmRow) (wr := []) ⟨hx, hb, hml, hown, hts⟩ (cwV 1 hts gX5_bar_X5_isNode rfl rfl rfl (by decide +kernel) ⟨Nat.le_of_ble_eq_true rfl, Nat.le_of_ble_eq_true rfl⟩) hK hN hA hP hD hS [0, 1, 2, 3, 4, 5, 6, 7, 8, 9, 10, 11, 12] [] rfl rfl (by decide) (by decide) (by decide) 0 rfl rfl (k_X5_isNode l G cI cJ cZ aM aM1 aM2 aM3 aM4 aM6 aM8 aM9 aM10 aM11 aM12 aM13 aM15 _ N vmN vmR vmBN vmHN vmL vmLo vmHi vmC vmZ vmB vmT vmM vmK vmF vmX vmH vmRow x1 _ hw) rfl hl.1 rfl (Nat.le_of_ble_eq_true rfl) dX5_bar_2 ⟨Nat.le_of_ble_eq_true rfl, Nat.le_of_ble_eq_true rfl⟩ (fun r_1 u_ H locs hw hP hD hS => ?_)
  replace hP : va_P G vwCl (wdM cI cJ cZ aM aM1 aM2 aM3 aM4 aM6 aM8 aM9 aM10 aM11 aM12 aM13 aM15 vmN vmR vmBN vmHN vmL vmLo vmHi vmC vmZ vmB vmT vmM vmK vmF vmX vmH vmRow) H := hP.sub [0, 1, 2, 3, 4, 5, 6, 7, 8, 9, 10, 11, 12] rfl
  replace hD : va_D A (wdM cI cJ cZ aM aM1 aM2 aM3 aM4 aM6 aM8 aM9 aM10 aM11 aM12 aM13 aM15 vmN vmR vmBN vmHN vmL vmLo vmHi vmC vmZ vmB vmT vmM vmK vmF vmX vmH vmRow) := hD.sub [0, 1, 2, 3, 4, 5, 6, 7, 8, 9, 10, 11, 12] (by decide) rfl
  refine lv_if_eq (tgt := 34) hx hb dX5_bar_5 (by decide) (fun c_2 => ?_) (fun c_2 => ?_)
  · replace hw := hw.1 c_2
    refine lv_bipush (v := (-14 : Int32)) hx hb dX5_bar_34 (by decide) ?_
    exact hret 36 (-14 : Int32) (vmBN, vmB) _ _ _ dX5_bar_36 hw hP hD hS
  · replace hw := hw.2 c_2
    refine lv_aload_n hx hb dX5_bar_8 rfl (lv_at hl 0 rfl) ?_
    refine lv_iload_n hx hb dX5_bar_9 rfl (lv_at hl 2 rfl) ?_
    refine kc_Vi (As := [.int x2]) (rest := []) (wc := wdM cI cJ cZ aM aM1 aM2 aM3 aM4 aM6 aM8 aM9 aM10 aM11 aM12 aM13 aM15 vmN vmR vmBN vmHN vmL vmLo vmHi vmC vmZ vmB vmT vmM vmK vmF vmX vmH vmRow) (wr := []) ⟨hx, hb, hml, hown, hts⟩ (cwV 1 hts gX5_bar_X5_isNode rfl rfl rfl (by decide +kernel) ⟨Nat.le_of_ble_eq_true rfl, Nat.le_of_ble_eq_true rfl⟩) hK hN hA hP hD hS [0, 1, 2, 3, 4, 5, 6, 7, 8, 9, 10, 11, 12] [] rfl rfl (by decide) (by decide) (by decide) 0 rfl rfl (k_X5_isNode l G cI cJ cZ aM aM1 aM2 aM3 aM4 aM6 aM8 aM9 aM10 aM11 aM12 aM13 aM15 _ N vmN vmR vmBN vmHN vmL vmLo vmHi vmC vmZ vmB vmT vmM vmK vmF vmX vmH vmRow x2 _ hw) rfl hl.1 rfl (Nat.le_of_ble_eq_true rfl) dX5_bar_10 ⟨Nat.le_of_ble_eq_true rfl, Nat.le_of_ble_eq_true rfl⟩ (fun r_3 u_ H locs hw hP hD hS => ?_)
    replace hP : va_P G vwCl (wdM cI cJ cZ aM aM1 aM2 aM3 aM4 aM6 aM8 aM9 aM10 aM11 aM12 aM13 aM15 vmN vmR vmBN vmHN vmL vmLo vmHi vmC vmZ vmB vmT vmM vmK vmF vmX vmH vmRow) H := hP.sub [0, 1, 2, 3, 4, 5, 6, 7, 8, 9, 10, 11, 12] rfl
    replace hD : va_D A (wdM cI cJ cZ aM aM1 aM2 aM3 aM4 aM6 aM8 aM9 aM10 aM11 aM12 aM13 aM15 vmN vmR vmBN vmHN vmL vmLo vmHi vmC vmZ vmB vmT vmM vmK vmF vmX vmH vmRow) := hD.sub [0, 1, 2, 3, 4, 5, 6, 7, 8, 9, 10, 11, 12] (by decide) rfl
    refine lv_if_eq (tgt := 34) hx hb dX5_bar_13 (by decide) (fun c_4 => ?_) (fun c_4 => ?_)
    · replace hw := hw.1 c_4
      refine lv_bipush (v := (-14 : Int32)) hx hb dX5_bar_34 (by decide) ?_
      exact hret 36 (-14 : Int32) (vmBN, vmB) _ _ _ dX5_bar_36 hw hP hD hS
    · replace hw := hw.2 c_4
      refine lv_aload_n hx hb dX5_bar_16 rfl (lv_at hl 0 rfl) ?_
      refine lv_iload_n hx hb dX5_bar_17 rfl (lv_at hl 3 rfl) ?_
      refine kc_Vi (As := [.int x3]) (rest := []) (wc := wdM cI cJ cZ aM aM1 aM2 aM3 aM4 aM6 aM8 aM9 aM10 aM11 aM12 aM13 aM15 vmN vmR vmBN vmHN vmL vmLo vmHi vmC vmZ vmB vmT vmM vmK vmF vmX vmH vmRow) (wr := []) ⟨hx, hb, hml, hown, hts⟩ (cwV 1 hts gX5_bar_X5_isNode rfl rfl rfl (by decide +kernel) ⟨Nat.le_of_ble_eq_true rfl, Nat.le_of_ble_eq_true rfl⟩) hK hN hA hP hD hS [0, 1, 2, 3, 4, 5, 6, 7, 8, 9, 10, 11, 12] [] rfl rfl (by decide) (by decide) (by decide) 0 rfl rfl (k_X5_isNode l G cI cJ cZ aM aM1 aM2 aM3 aM4 aM6 aM8 aM9 aM10 aM11 aM12 aM13 aM15 _ N vmN vmR vmBN vmHN vmL vmLo vmHi vmC vmZ vmB vmT vmM vmK vmF vmX vmH vmRow x3 _ hw) rfl hl.1 rfl (Nat.le_of_ble_eq_true rfl) dX5_bar_18 ⟨Nat.le_of_ble_eq_true rfl, Nat.le_of_ble_eq_true rfl⟩ (fun r_5 u_ H locs hw hP hD hS => ?_)
      replace hP : va_P G vwCl (wdM cI cJ cZ aM aM1 aM2 aM3 aM4 aM6 aM8 aM9 aM10 aM11 aM12 aM13 aM15 vmN vmR vmBN vmHN vmL vmLo vmHi vmC vmZ vmB vmT vmM vmK vmF vmX vmH vmRow) H := hP.sub [0, 1, 2, 3, 4, 5, 6, 7, 8, 9, 10, 11, 12] rfl
      replace hD : va_D A (wdM cI cJ cZ aM aM1 aM2 aM3 aM4 aM6 aM8 aM9 aM10 aM11 aM12 aM13 aM15 vmN vmR vmBN vmHN vmL vmLo vmHi vmC vmZ vmB vmT vmM vmK vmF vmX vmH vmRow) := hD.sub [0, 1, 2, 3, 4, 5, 6, 7, 8, 9, 10, 11, 12] (by decide) rfl
      refine lv_if_eq (tgt := 34) hx hb dX5_bar_21 (by decide) (fun c_6 => ?_) (fun c_6 => ?_)
      · replace hw := hw.1 c_6
        refine lv_bipush (v := (-14 : Int32)) hx hb dX5_bar_34 (by decide) ?_
        exact hret 36 (-14 : Int32) (vmBN, vmB) _ _ _ dX5_bar_36 hw hP hD hS
      · replace hw := hw.2 c_6
        refine lv_iload_n hx hb dX5_bar_24 rfl (lv_at hl 1 rfl) ?_
        refine lv_iload_n hx hb dX5_bar_25 rfl (lv_at hl 2 rfl) ?_
        refine lv_icmp_eq (tgt := 34) hx hb dX5_bar_26 (by decide) (fun c_7 => ?_) (fun c_7 => ?_)
        · replace hw := hw.1 c_7
          refine lv_bipush (v := (-14 : Int32)) hx hb dX5_bar_34 (by decide) ?_
          exact hret 36 (-14 : Int32) (vmBN, vmB) _ _ _ dX5_bar_36 hw hP hD hS
        · replace hw := hw.2 c_7
          refine lv_iload_n hx hb dX5_bar_29 rfl (lv_at hl 2 rfl) ?_
          refine lv_iload_n hx hb dX5_bar_30 rfl (lv_at hl 3 rfl) ?_
          refine lv_icmp_ne (tgt := 37) hx hb dX5_bar_31 (by decide) (fun c_8 => ?_) (fun c_8 => ?_)
          · replace hw := hw.1 c_8
            refine lv_aload_n hx hb dX5_bar_37 rfl (lv_at hl 0 rfl) ?_
            refine lv_iload_n hx hb dX5_bar_38 rfl (lv_at hl 1 rfl) ?_
            refine lv_iload_n hx hb dX5_bar_39 rfl (lv_at hl 2 rfl) ?_
            refine lv_iload_n hx hb dX5_bar_40 rfl (lv_at hl 3 rfl) ?_
            refine kc_Vi (As := [.int x1, .int x2, .int x3]) (rest := []) (wc := wdM cI cJ cZ aM aM1 aM2 aM3 aM4 aM6 aM8 aM9 aM10 aM11 aM12 aM13 aM15 vmN vmR vmBN vmHN vmL vmLo vmHi vmC vmZ vmB vmT vmM vmK vmF vmX vmH vmRow) (wr := []) ⟨hx, hb, hml, hown, hts⟩ (cwV 3 hts gX5_bar_X5_barAt rfl rfl rfl (by decide +kernel) ⟨Nat.le_of_ble_eq_true rfl, Nat.le_of_ble_eq_true rfl⟩) hK hN hA hP hD hS [0, 1, 2, 3, 4, 5, 6, 7, 8, 9, 10, 11, 12] [] rfl rfl (by decide) (by decide) (by decide) 0 rfl rfl (k_X5_barAt l G cI cJ cZ aM aM1 aM2 aM3 aM4 aM6 aM8 aM9 aM10 aM11 aM12 aM13 aM15 _ N vmN vmR vmBN vmHN vmL vmLo vmHi vmC vmZ vmB vmT vmM vmK vmF vmX vmH vmRow x1 x2 x3 _ hw) rfl hl.1 rfl (Nat.le_of_ble_eq_true rfl) dX5_bar_41 ⟨Nat.le_of_ble_eq_true rfl, Nat.le_of_ble_eq_true rfl⟩ (fun r_9 u_ H locs hw hP hD hS => ?_)
            replace hP : va_P G vwCl (wdM cI cJ cZ aM aM1 aM2 aM3 aM4 aM6 aM8 aM9 aM10 aM11 aM12 aM13 aM15 vmN vmR vmBN vmHN vmL vmLo vmHi vmC vmZ vmB vmT vmM vmK vmF vmX vmH vmRow) H := hP.sub [0, 1, 2, 3, 4, 5, 6, 7, 8, 9, 10, 11, 12] rfl
            replace hD : va_D A (wdM cI cJ cZ aM aM1 aM2 aM3 aM4 aM6 aM8 aM9 aM10 aM11 aM12 aM13 aM15 vmN vmR vmBN vmHN vmL vmLo vmHi vmC vmZ vmB vmT vmM vmK vmF vmX vmH vmRow) := hD.sub [0, 1, 2, 3, 4, 5, 6, 7, 8, 9, 10, 11, 12] (by decide) rfl
            refine lv_istore (lv' := [(5, .int r_9), (0, .ref aM), (1, .int x1), (2, .int x2), (3, .int x3), (4, .int x4)]) hx hb dX5_bar_44 hl (by decide) rfl (fun ls hl => ?_)
            refine lv_iload hx hb dX5_bar_46 (lv_at hl 0 rfl) ?_
            refine lv_if_lt (tgt := 55) hx hb dX5_bar_48 (by decide) (fun c_10 => ?_) (fun c_10 => ?_)
            · replace hw := hw.1 c_10
              refine lv_iconst (v := (0 : Int32)) hx hb dX5_bar_55 (by decide) ?_
              replace hl : lv_has ls 7 [(0, .ref aM), (1, .int x1), (2, .int x2), (3, .int x3), (4, .int x4), (5, .int r_9)] := lv_sub hl [1, 2, 3, 4, 5, 0] rfl
              exact b56 vmBN vmB r_9 (0 : Int32) _ _ _ hw hP hD hS hl
            · replace hw := hw.2 c_10
              refine lv_iconst (v := (1 : Int32)) hx hb dX5_bar_51 (by decide) ?_
              refine lv_goto (tgt := 56) hx hb dX5_bar_52 (by decide) ?_
              replace hl : lv_has ls 7 [(0, .ref aM), (1, .int x1), (2, .int x2), (3, .int x3), (4, .int x4), (5, .int r_9)] := lv_sub hl [1, 2, 3, 4, 5, 0] rfl
              exact b56 vmBN vmB r_9 (1 : Int32) _ _ _ hw hP hD hS hl
          · replace hw := hw.2 c_8
            refine lv_bipush (v := (-14 : Int32)) hx hb dX5_bar_34 (by decide) ?_
            exact hret 36 (-14 : Int32) (vmBN, vmB) _ _ _ dX5_bar_36 hw hP hD hS
