def w_X5_known_b50_B (N : Nat) (x1 : Int32) (post : Int32 → (Nat → Int64) → (Nat → Int32) → (Nat → Int32) → (Nat → Int32) → Prop) (k50 : Int32 → (Nat → Int64) → (Nat → Int32) → (Nat → Int32) → (Nat → Int32) → Int32 → Prop) (vmHN_b50 : Int32) (vmT_b50 : Nat → Int64) (vmM_b50 : Nat → Int32) (vmK_b50 : Nat → Int32) (vmH_b50 : Nat → Int32) (x5_b50 : Int32) : Prop :=
  ((x5_b50 ≤ (0 : Int32) → vp_in x5_b50 4000 ∧ post vmHN_b50 vmT_b50 vmM_b50 vmK_b50 (upd vmH_b50 x5_b50.toNatClampNeg x1)) ∧ (¬ (x5_b50 ≤ (0 : Int32)) → vp_in ((x5_b50 - (1 : Int32)) / (2 : Int32)) 4000 ∧ w_X5_isLess N vmT_b50 vmM_b50 x1 (vmH_b50 ((x5_b50 - (1 : Int32)) / (2 : Int32)).toNatClampNeg) (fun r_6 => ((r_6 = (0 : Int32) → vp_in x5_b50 4000 ∧ post vmHN_b50 vmT_b50 vmM_b50 vmK_b50 (upd vmH_b50 x5_b50.toNatClampNeg x1)) ∧ (¬ (r_6 = (0 : Int32)) → vp_in x5_b50 4000 ∧ ∀ x5_10 : Int32, x5_10 = ((x5_b50 - (1 : Int32)) / (2 : Int32)) → k50 vmHN_b50 vmT_b50 vmM_b50 vmK_b50 (upd vmH_b50 x5_b50.toNatClampNeg (vmH_b50 ((x5_b50 - (1 : Int32)) / (2 : Int32)).toNatClampNeg)) x5_10)))))
def w_X5_known_b50 (N : Nat) (x1 : Int32) (post : Int32 → (Nat → Int64) → (Nat → Int32) → (Nat → Int32) → (Nat → Int32) → Prop) : Nat → Int32 → (Nat → Int64) → (Nat → Int32) → (Nat → Int32) → (Nat → Int32) → Int32 → Prop
  | 0, _, _, _, _, _, _ => False
  | n + 1, vmHN_b50, vmT_b50, vmM_b50, vmK_b50, vmH_b50, x5_b50 => w_X5_known_b50_B N x1 post (w_X5_known_b50 N x1 post n) vmHN_b50 vmT_b50 vmM_b50 vmK_b50 vmH_b50 x5_b50
def w_X5_known (N : Nat) (vmHN : Int32) (vmC : Nat → Int32) (vmT : Nat → Int64) (vmM : Nat → Int32) (vmK : Nat → Int32) (vmH : Nat → Int32) (x1 : Int32) (x2 : Int64) (x4 : Int32) (post : Int32 → (Nat → Int64) → (Nat → Int32) → (Nat → Int32) → (Nat → Int32) → Prop) : Prop :=
  vp_in (x1 / (2 : Int32)) 2000 ∧ vp_in x1 4000 ∧ w_X5_known_b50 N x1 post N (vmHN + (1 : Int32)) (vp_updL vmT x1.toNatClampNeg (((vmC (x1 / (2 : Int32)).toNatClampNeg).toInt64) + x2)) (upd vmM x1.toNatClampNeg (x4 + (1 : Int32))) (upd vmK x1.toNatClampNeg (vp_nar .boolean (1 : Int32))) vmH vmHN
abbrev rm_X5_known : Room := { frames := 1, cells := 0, slots := 0, locals := 22 }
set_option maxHeartbeats 4000000 in
set_option maxRecDepth 100000 in
theorem k_X5_known (l : Launch) (G : va_G) (cI cJ cZ : ClassId) (aM aM1 aM2 aM3 aM4 aM6 aM8 aM9 aM10 aM11 aM12 aM13 aM15 : Nat) (sz N : Nat) (vmN : Int32) (vmR : Int32) (vmBN : Int32) (vmHN : Int32) (vmL : Int32) (vmLo : Nat → Int32) (vmHi : Nat → Int32) (vmC : Nat → Int32) (vmZ : Nat → Int32) (vmB : Nat → Int32) (vmT : Nat → Int64) (vmM : Nat → Int32) (vmK : Nat → Int32) (vmF : Nat → Int32) (vmX : Nat → Int32) (vmH : Nat → Int32) (vmRow : Nat → Int32) (x1 : Int32) (x2 : Int64) (x4 : Int32) (post : Int32 → (Nat → Int64) → (Nat → Int32) → (Nat → Int32) → (Nat → Int32) → Prop) (hw : w_X5_known N vmHN vmC vmT vmM vmK vmH x1 x2 x4 post) : Met l yX5_known wsX5_known rm_X5_known (kPc G (tyL cI cJ cZ) [.ref aM, .int x1, .long x2, .int x4] sz (wdM cI cJ cZ aM aM1 aM2 aM3 aM4 aM6 aM8 aM9 aM10 aM11 aM12 aM13 aM15 vmN vmR vmBN vmHN vmL vmLo vmHi vmC vmZ vmB vmT vmM vmK vmF vmX vmH vmRow)) (va_Qv (fun (u : Int32 × (Nat → Int64) × (Nat → Int32) × (Nat → Int32) × (Nat → Int32)) => post u.1 u.2.1 u.2.2.1 u.2.2.2.1 u.2.2.2.2) (kB G (tyL cI cJ cZ) (va_A (wdM cI cJ cZ aM aM1 aM2 aM3 aM4 aM6 aM8 aM9 aM10 aM11 aM12 aM13 aM15 vmN vmR vmBN vmHN vmL vmLo vmHi vmC vmZ vmB vmT vmM vmK vmF vmX vmH vmRow) sz) (fun (u : Int32 × (Nat → Int64) × (Nat → Int32) × (Nat → Int32) × (Nat → Int32)) => wdM cI cJ cZ aM aM1 aM2 aM3 aM4 aM6 aM8 aM9 aM10 aM11 aM12 aM13 aM15 vmN vmR vmBN u.1 vmL vmLo vmHi vmC vmZ vmB u.2.1 u.2.2.1 u.2.2.2.1 vmF vmX u.2.2.2.2 vmRow)) (va_A (wdM cI cJ cZ aM aM1 aM2 aM3 aM4 aM6 aM8 aM9 aM10 aM11 aM12 aM13 aM15 vmN vmR vmBN vmHN vmL vmLo vmHi vmC vmZ vmB vmT vmM vmK vmF vmX vmH vmRow) sz)) 0 0 (va_A (wdM cI cJ cZ aM aM1 aM2 aM3 aM4 aM6 aM8 aM9 aM10 aM11 aM12 aM13 aM15 vmN vmR vmBN vmHN vmL vmLo vmHi vmC vmZ vmB vmT vmM vmK vmF vmX vmH vmRow) sz) := by
  refine km_v (cc := cX5_known) (maxL := 6) (by decide) rfl (Nat.le_of_ble_eq_true rfl) ?_
  intro p e s m below meth c A Q ls hx hb hml hts hown hnm hK hN hA hP hD hS hl hret
  replace hown : s.vm.findClass RX5 = some m.cls := hown
  replace hl : lv_has ls 6 [(0, .ref aM), (1, .int x1), (2, .long x2), (4, .int x4)] := hl
  have b50 : ∀ (n50 : Nat) (vmHN_b50 : Int32) (vmT_b50 : Nat → Int64) (vmM_b50 : Nat → Int32) (vmK_b50 : Nat → Int32) (vmH_b50 : Nat → Int32) (x5_b50 : Int32) (H : Heap) (locs : List Loc) (ls : Array Slot), w_X5_known_b50 N x1 post n50 vmHN_b50 vmT_b50 vmM_b50 vmK_b50 vmH_b50 x5_b50 → va_P G vwCl (wdM cI cJ cZ aM aM1 aM2 aM3 aM4 aM6 aM8 aM9 aM10 aM11 aM12 aM13 aM15 vmN vmR vmBN vmHN_b50 vmL vmLo vmHi vmC vmZ vmB vmT_b50 vmM_b50 vmK_b50 vmF vmX vmH_b50 vmRow) H → va_D A (wdM cI cJ cZ aM aM1 aM2 aM3 aM4 aM6 aM8 aM9 aM10 aM11 aM12 aM13 aM15 vmN vmR vmBN vmHN_b50 vmL vmLo vmHi vmC vmZ vmB vmT_b50 vmM_b50 vmK_b50 vmF vmX vmH_b50 vmRow) → va_S A s.heap H locs → lv_has ls 6 [(0, .ref aM), (1, .int x1), (5, .int x5_b50)] → W p l e rm_X5_known s m ([.ref aM, .int x1, .long x2, .int x4] : List Value).toArray below meth c H locs 0 0 Q (F0 m 50 ls []) := by
    intro n50
    induction n50 with
    | zero => intro vmHN_b50 vmT_b50 vmM_b50 vmK_b50 vmH_b50 x5_b50 H locs ls hw; exact hw.elim
    | succ n50 ih50 =>
      intro vmHN_b50 vmT_b50 vmM_b50 vmK_b50 vmH_b50 x5_b50 H locs ls hw hP hD hS hl
      replace hw : w_X5_known_b50_B N x1 post (w_X5_known_b50 N x1 post n50) vmHN_b50 vmT_b50 vmM_b50 vmK_b50 vmH_b50 x5_b50 := hw
      unfold w_X5_known_b50_B at hw
      refine lv_iload hx hb dX5_known_50 (lv_at hl 2 rfl) ?_
      refine lv_if_le (tgt := 103) hx hb dX5_known_52 (by decide) (fun c_3 => ?_) (fun c_3 => ?_)
      · replace hw := hw.1 c_3
        refine lv_aload_n hx hb dX5_known_103 rfl (lv_at hl 0 rfl) ?_
        refine va_get (D := G) (ci := 5) (v := .ref aM13) (C := RX5) (T := TX5) (N := 17) hx hb hts (fun _ h => List.mem_cons_of_mem _ (List.mem_append_right _ h)) hown hK hP 0 rfl rfl 13 (by decide) (hts _ (List.mem_of_getElem? (i := 6) rfl)) (fun _ h9 => h9) rfl dX5_known_104 ?_
        refine lv_iload hx hb dX5_known_107 (lv_at hl 2 rfl) ?_
        refine lv_iload_n hx hb dX5_known_109 rfl (lv_at hl 1 rfl) ?_
        have h_4 := hw.1
        replace hw := hw.2
        refine va_iast hx hb hK hP hD hS 11 0 rfl rfl h_4 dX5_known_110 (fun H locs hP hD hS => ?_)
        replace hP : va_P G vwCl (wdM cI cJ cZ aM aM1 aM2 aM3 aM4 aM6 aM8 aM9 aM10 aM11 aM12 aM13 aM15 vmN vmR vmBN vmHN_b50 vmL vmLo vmHi vmC vmZ vmB vmT_b50 vmM_b50 vmK_b50 vmF vmX (upd vmH_b50 x5_b50.toNatClampNeg x1) vmRow) H := hP
        replace hD : va_D A (wdM cI cJ cZ aM aM1 aM2 aM3 aM4 aM6 aM8 aM9 aM10 aM11 aM12 aM13 aM15 vmN vmR vmBN vmHN_b50 vmL vmLo vmHi vmC vmZ vmB vmT_b50 vmM_b50 vmK_b50 vmF vmX (upd vmH_b50 x5_b50.toNatClampNeg x1) vmRow) := hD
        exact hret 111 (vmHN_b50, vmT_b50, vmM_b50, vmK_b50, (upd vmH_b50 x5_b50.toNatClampNeg x1)) _ _ _ dX5_known_111 hw hP hD hS
      · replace hw := hw.2 c_3
        refine lv_aload_n hx hb dX5_known_55 rfl (lv_at hl 0 rfl) ?_
        refine lv_iload_n hx hb dX5_known_56 rfl (lv_at hl 1 rfl) ?_
        refine lv_aload_n hx hb dX5_known_57 rfl (lv_at hl 0 rfl) ?_
        refine va_get (D := G) (ci := 5) (v := .ref aM13) (C := RX5) (T := TX5) (N := 17) hx hb hts (fun _ h => List.mem_cons_of_mem _ (List.mem_append_right _ h)) hown hK hP 0 rfl rfl 13 (by decide) (hts _ (List.mem_of_getElem? (i := 6) rfl)) (fun _ h9 => h9) rfl dX5_known_58 ?_
        refine lv_iload hx hb dX5_known_61 (lv_at hl 2 rfl) ?_
        refine lv_iconst (v := (1 : Int32)) hx hb dX5_known_63 (by decide) ?_
        refine lv_isub hx hb dX5_known_64 ?_
        refine lv_iconst (v := (2 : Int32)) hx hb dX5_known_65 (by decide) ?_
        refine lv_idiv hx hb dX5_known_66 (by decide) ?_
        have h_5 := hw.1
        replace hw := hw.2
        refine va_iald hx hb hK hP 11 0 rfl rfl h_5 dX5_known_67 ?_
        refine kc_Vi (As := [.int x1, .int (vmH_b50 ((x5_b50 - (1 : Int32)) / (2 : Int32)).toNatClampNeg)]) (rest := []) (wc := wdM cI cJ cZ aM aM1 aM2 aM3 aM4 aM6 aM8 aM9 aM10 aM11 aM12 aM13 aM15 vmN vmR vmBN vmHN_b50 vmL vmLo vmHi vmC vmZ vmB vmT_b50 vmM_b50 vmK_b50 vmF vmX vmH_b50 vmRow) (wr := []) ⟨hx, hb, hml, hown, hts⟩ (cwV 2 hts gX5_known_X5_isLess rfl rfl rfl (by decide +kernel) ⟨Nat.le_of_ble_eq_true rfl, Nat.le_of_ble_eq_true rfl⟩) hK hN hA hP hD hS [0, 1, 2, 3, 4, 5, 6, 7, 8, 9, 10, 11, 12] [] rfl rfl (by decide) (by decide) (by decide) 0 rfl rfl (k_X5_isLess l G cI cJ cZ aM aM1 aM2 aM3 aM4 aM6 aM8 aM9 aM10 aM11 aM12 aM13 aM15 _ N vmN vmR vmBN vmHN_b50 vmL vmLo vmHi vmC vmZ vmB vmT_b50 vmM_b50 vmK_b50 vmF vmX vmH_b50 vmRow x1 (vmH_b50 ((x5_b50 - (1 : Int32)) / (2 : Int32)).toNatClampNeg) _ hw) rfl hl.1 rfl (Nat.le_of_ble_eq_true rfl) dX5_known_68 ⟨Nat.le_of_ble_eq_true rfl, Nat.le_of_ble_eq_true rfl⟩ (fun r_6 u_ H locs hw hP hD hS => ?_)
        replace hP : va_P G vwCl (wdM cI cJ cZ aM aM1 aM2 aM3 aM4 aM6 aM8 aM9 aM10 aM11 aM12 aM13 aM15 vmN vmR vmBN vmHN_b50 vmL vmLo vmHi vmC vmZ vmB vmT_b50 vmM_b50 vmK_b50 vmF vmX vmH_b50 vmRow) H := hP.sub [0, 1, 2, 3, 4, 5, 6, 7, 8, 9, 10, 11, 12] rfl
        replace hD : va_D A (wdM cI cJ cZ aM aM1 aM2 aM3 aM4 aM6 aM8 aM9 aM10 aM11 aM12 aM13 aM15 vmN vmR vmBN vmHN_b50 vmL vmLo vmHi vmC vmZ vmB vmT_b50 vmM_b50 vmK_b50 vmF vmX vmH_b50 vmRow) := hD.sub [0, 1, 2, 3, 4, 5, 6, 7, 8, 9, 10, 11, 12] (by decide) rfl
        refine lv_if_eq (tgt := 103) hx hb dX5_known_71 (by decide) (fun c_7 => ?_) (fun c_7 => ?_)
        · replace hw := hw.1 c_7
          refine lv_aload_n hx hb dX5_known_103 rfl (lv_at hl 0 rfl) ?_
          refine va_get (D := G) (ci := 5) (v := .ref aM13) (C := RX5) (T := TX5) (N := 17) hx hb hts (fun _ h => List.mem_cons_of_mem _ (List.mem_append_right _ h)) hown hK hP 0 rfl rfl 13 (by decide) (hts _ (List.mem_of_getElem? (i := 6) rfl)) (fun _ h9 => h9) rfl dX5_known_104 ?_
          refine lv_iload hx hb dX5_known_107 (lv_at hl 2 rfl) ?_
          refine lv_iload_n hx hb dX5_known_109 rfl (lv_at hl 1 rfl) ?_
          have h_8 := hw.1
          replace hw := hw.2
          refine va_iast hx hb hK hP hD hS 11 0 rfl rfl h_8 dX5_known_110 (fun H locs hP hD hS => ?_)
          replace hP : va_P G vwCl (wdM cI cJ cZ aM aM1 aM2 aM3 aM4 aM6 aM8 aM9 aM10 aM11 aM12 aM13 aM15 vmN vmR vmBN vmHN_b50 vmL vmLo vmHi vmC vmZ vmB vmT_b50 vmM_b50 vmK_b50 vmF vmX (upd vmH_b50 x5_b50.toNatClampNeg x1) vmRow) H := hP
          replace hD : va_D A (wdM cI cJ cZ aM aM1 aM2 aM3 aM4 aM6 aM8 aM9 aM10 aM11 aM12 aM13 aM15 vmN vmR vmBN vmHN_b50 vmL vmLo vmHi vmC vmZ vmB vmT_b50 vmM_b50 vmK_b50 vmF vmX (upd vmH_b50 x5_b50.toNatClampNeg x1) vmRow) := hD
          exact hret 111 (vmHN_b50, vmT_b50, vmM_b50, vmK_b50, (upd vmH_b50 x5_b50.toNatClampNeg x1)) _ _ _ dX5_known_111 hw hP hD hS
        · replace hw := hw.2 c_7
          refine lv_aload_n hx hb dX5_known_74 rfl (lv_at hl 0 rfl) ?_
          refine va_get (D := G) (ci := 5) (v := .ref aM13) (C := RX5) (T := TX5) (N := 17) hx hb hts (fun _ h => List.mem_cons_of_mem _ (List.mem_append_right _ h)) hown hK hP 0 rfl rfl 13 (by decide) (hts _ (List.mem_of_getElem? (i := 6) rfl)) (fun _ h9 => h9) rfl dX5_known_75 ?_
          refine lv_iload hx hb dX5_known_78 (lv_at hl 2 rfl) ?_
          refine lv_aload_n hx hb dX5_known_80 rfl (lv_at hl 0 rfl) ?_
          refine va_get (D := G) (ci := 5) (v := .ref aM13) (C := RX5) (T := TX5) (N := 17) hx hb hts (fun _ h => List.mem_cons_of_mem _ (List.mem_append_right _ h)) hown hK hP 0 rfl rfl 13 (by decide) (hts _ (List.mem_of_getElem? (i := 6) rfl)) (fun _ h9 => h9) rfl dX5_known_81 ?_
          refine lv_iload hx hb dX5_known_84 (lv_at hl 2 rfl) ?_
          refine lv_iconst (v := (1 : Int32)) hx hb dX5_known_86 (by decide) ?_
          refine lv_isub hx hb dX5_known_87 ?_
          refine lv_iconst (v := (2 : Int32)) hx hb dX5_known_88 (by decide) ?_
          refine lv_idiv hx hb dX5_known_89 (by decide) ?_
          refine va_iald hx hb hK hP 11 0 rfl rfl h_5 dX5_known_90 ?_
          have h_9 := hw.1
          replace hw := hw.2
          refine va_iast hx hb hK hP hD hS 11 0 rfl rfl h_9 dX5_known_91 (fun H locs hP hD hS => ?_)
          replace hP : va_P G vwCl (wdM cI cJ cZ aM aM1 aM2 aM3 aM4 aM6 aM8 aM9 aM10 aM11 aM12 aM13 aM15 vmN vmR vmBN vmHN_b50 vmL vmLo vmHi vmC vmZ vmB vmT_b50 vmM_b50 vmK_b50 vmF vmX (upd vmH_b50 x5_b50.toNatClampNeg (vmH_b50 ((x5_b50 - (1 : Int32)) / (2 : Int32)).toNatClampNeg)) vmRow) H := hP
          replace hD : va_D A (wdM cI cJ cZ aM aM1 aM2 aM3 aM4 aM6 aM8 aM9 aM10 aM11 aM12 aM13 aM15 vmN vmR vmBN vmHN_b50 vmL vmLo vmHi vmC vmZ vmB vmT_b50 vmM_b50 vmK_b50 vmF vmX (upd vmH_b50 x5_b50.toNatClampNeg (vmH_b50 ((x5_b50 - (1 : Int32)) / (2 : Int32)).toNatClampNeg)) vmRow) := hD
          refine lv_iload hx hb dX5_known_92 (lv_at hl 2 rfl) ?_
          refine lv_iconst (v := (1 : Int32)) hx hb dX5_known_94 (by decide) ?_
          refine lv_isub hx hb dX5_known_95 ?_
          refine lv_iconst (v := (2 : Int32)) hx hb dX5_known_96 (by decide) ?_
          refine lv_idiv hx hb dX5_known_97 (by decide) ?_
          refine lv_topi (fun x5_10 e_11 => ?_)
          replace hw := hw x5_10 e_11
          refine lv_istore (lv' := [(5, .int x5_10), (0, .ref aM), (1, .int x1)]) hx hb dX5_known_98 hl (by decide) rfl (fun ls hl => ?_)
          refine lv_goto (tgt := 50) hx hb dX5_known_100 (by decide) ?_
          replace hl : lv_has ls 6 [(0, .ref aM), (1, .int x1), (5, .int x5_10)] := lv_sub hl [1, 2, 0] rfl
          exact ih50 vmHN_b50 vmT_b50 vmM_b50 vmK_b50 (upd vmH_b50 x5_b50.toNatClampNeg (vmH_b50 ((x5_b50 - (1 : Int32)) / (2 : Int32)).toNatClampNeg)) x5_10 _ _ _ hw hP hD hS hl
  unfold w_X5_known at hw
  refine lv_aload_n hx hb dX5_known_0 rfl (lv_at hl 0 rfl) ?_
  refine va_get (D := G) (ci := 5) (v := .ref aM8) (C := RX5) (T := TX5) (N := 17) hx hb hts (fun _ h => List.mem_cons_of_mem _ (List.mem_append_right _ h)) hown hK hP 0 rfl rfl 8 (by decide) (hts _ (List.mem_of_getElem? (i := 1) rfl)) (fun _ h9 => h9) rfl dX5_known_1 ?_
  refine lv_iload_n hx hb dX5_known_4 rfl (lv_at hl 1 rfl) ?_
  refine lv_aload_n hx hb dX5_known_5 rfl (lv_at hl 0 rfl) ?_
  refine va_get (D := G) (ci := 5) (v := .ref aM3) (C := RX5) (T := TX5) (N := 17) hx hb hts (fun _ h => List.mem_cons_of_mem _ (List.mem_append_right _ h)) hown hK hP 0 rfl rfl 3 (by decide) (hts _ (List.mem_of_getElem? (i := 2) rfl)) (fun _ h9 => h9) rfl dX5_known_6 ?_
  refine lv_iload_n hx hb dX5_known_9 rfl (lv_at hl 1 rfl) ?_
  refine lv_iconst (v := (2 : Int32)) hx hb dX5_known_10 (by decide) ?_
  refine lv_idiv hx hb dX5_known_11 (by decide) ?_
  have h_1 := hw.1
  replace hw := hw.2
  refine va_iald hx hb hK hP 3 0 rfl rfl h_1 dX5_known_12 ?_
  refine lv_i2l hx hb dX5_known_13 rfl ?_
  refine lv_lload_n hx hb dX5_known_14 rfl (lv_at hl 2 rfl) ?_
  refine lv_ladd hx hb dX5_known_15 ?_
  have h_2 := hw.1
  replace hw := hw.2
  refine va_last hx hb hK hP hD hS 6 1 rfl rfl h_2 dX5_known_16 (fun H locs hP hD hS => ?_)
  replace hP : va_P G vwCl (wdM cI cJ cZ aM aM1 aM2 aM3 aM4 aM6 aM8 aM9 aM10 aM11 aM12 aM13 aM15 vmN vmR vmBN vmHN vmL vmLo vmHi vmC vmZ vmB (vp_updL vmT x1.toNatClampNeg (((vmC (x1 / (2 : Int32)).toNatClampNeg).toInt64) + x2)) vmM vmK vmF vmX vmH vmRow) H := hP
  replace hD : va_D A (wdM cI cJ cZ aM aM1 aM2 aM3 aM4 aM6 aM8 aM9 aM10 aM11 aM12 aM13 aM15 vmN vmR vmBN vmHN vmL vmLo vmHi vmC vmZ vmB (vp_updL vmT x1.toNatClampNeg (((vmC (x1 / (2 : Int32)).toNatClampNeg).toInt64) + x2)) vmM vmK vmF vmX vmH vmRow) := hD
  refine lv_aload_n hx hb dX5_known_17 rfl (lv_at hl 0 rfl) ?_
  refine va_get (D := G) (ci := 5) (v := .ref aM9) (C := RX5) (T := TX5) (N := 17) hx hb hts (fun _ h => List.mem_cons_of_mem _ (List.mem_append_right _ h)) hown hK hP 0 rfl rfl 9 (by decide) (hts _ (List.mem_of_getElem? (i := 3) rfl)) (fun _ h9 => h9) rfl dX5_known_18 ?_
  refine lv_iload_n hx hb dX5_known_21 rfl (lv_at hl 1 rfl) ?_
  refine lv_iload hx hb dX5_known_22 (lv_at hl 3 rfl) ?_
  refine lv_iconst (v := (1 : Int32)) hx hb dX5_known_24 (by decide) ?_
  refine lv_iadd hx hb dX5_known_25 ?_
  refine va_iast hx hb hK hP hD hS 7 0 rfl rfl h_2 dX5_known_26 (fun H locs hP hD hS => ?_)
  replace hP : va_P G vwCl (wdM cI cJ cZ aM aM1 aM2 aM3 aM4 aM6 aM8 aM9 aM10 aM11 aM12 aM13 aM15 vmN vmR vmBN vmHN vmL vmLo vmHi vmC vmZ vmB (vp_updL vmT x1.toNatClampNeg (((vmC (x1 / (2 : Int32)).toNatClampNeg).toInt64) + x2)) (upd vmM x1.toNatClampNeg (x4 + (1 : Int32))) vmK vmF vmX vmH vmRow) H := hP
  replace hD : va_D A (wdM cI cJ cZ aM aM1 aM2 aM3 aM4 aM6 aM8 aM9 aM10 aM11 aM12 aM13 aM15 vmN vmR vmBN vmHN vmL vmLo vmHi vmC vmZ vmB (vp_updL vmT x1.toNatClampNeg (((vmC (x1 / (2 : Int32)).toNatClampNeg).toInt64) + x2)) (upd vmM x1.toNatClampNeg (x4 + (1 : Int32))) vmK vmF vmX vmH vmRow) := hD
  refine lv_aload_n hx hb dX5_known_27 rfl (lv_at hl 0 rfl) ?_
  refine va_get (D := G) (ci := 5) (v := .ref aM10) (C := RX5) (T := TX5) (N := 17) hx hb hts (fun _ h => List.mem_cons_of_mem _ (List.mem_append_right _ h)) hown hK hP 0 rfl rfl 10 (by decide) (hts _ (List.mem_of_getElem? (i := 4) rfl)) (fun _ h9 => h9) rfl dX5_known_28 ?_
  refine lv_iload_n hx hb dX5_known_31 rfl (lv_at hl 1 rfl) ?_
  refine lv_iconst (v := (1 : Int32)) hx hb dX5_known_32 (by decide) ?_
  refine va_zast hx hb hK hP hD hS 8 2 rfl rfl h_2 dX5_known_33 (fun H locs hP hD hS => ?_)
  replace hP : va_P G vwCl (wdM cI cJ cZ aM aM1 aM2 aM3 aM4 aM6 aM8 aM9 aM10 aM11 aM12 aM13 aM15 vmN vmR vmBN vmHN vmL vmLo vmHi vmC vmZ vmB (vp_updL vmT x1.toNatClampNeg (((vmC (x1 / (2 : Int32)).toNatClampNeg).toInt64) + x2)) (upd vmM x1.toNatClampNeg (x4 + (1 : Int32))) (upd vmK x1.toNatClampNeg (vp_nar .boolean (1 : Int32))) vmF vmX vmH vmRow) H := hP
  replace hD : va_D A (wdM cI cJ cZ aM aM1 aM2 aM3 aM4 aM6 aM8 aM9 aM10 aM11 aM12 aM13 aM15 vmN vmR vmBN vmHN vmL vmLo vmHi vmC vmZ vmB (vp_updL vmT x1.toNatClampNeg (((vmC (x1 / (2 : Int32)).toNatClampNeg).toInt64) + x2)) (upd vmM x1.toNatClampNeg (x4 + (1 : Int32))) (upd vmK x1.toNatClampNeg (vp_nar .boolean (1 : Int32))) vmF vmX vmH vmRow) := hD
  refine lv_aload_n hx hb dX5_known_34 rfl (lv_at hl 0 rfl) ?_
  refine va_get (D := G) (ci := 5) (v := .int vmHN) (C := RX5) (T := TX5) (N := 17) hx hb hts (fun _ h => List.mem_cons_of_mem _ (List.mem_append_right _ h)) hown hK hP 0 rfl rfl 14 (by decide) (hts _ (List.mem_of_getElem? (i := 5) rfl)) (fun _ h9 => h9) rfl dX5_known_35 ?_
  refine lv_istore (lv' := [(5, .int vmHN), (0, .ref aM), (1, .int x1), (2, .long x2), (4, .int x4)]) hx hb dX5_known_38 hl (by decide) rfl (fun ls hl => ?_)
  refine lv_aload_n hx hb dX5_known_40 rfl (lv_at hl 1 rfl) ?_
  refine lv_dup hx hb dX5_known_41 rfl ?_
  refine va_get (D := G) (ci := 5) (v := .int vmHN) (C := RX5) (T := TX5) (N := 17) hx hb hts (fun _ h => List.mem_cons_of_mem _ (List.mem_append_right _ h)) hown hK hP 0 rfl rfl 14 (by decide) (hts _ (List.mem_of_getElem? (i := 5) rfl)) (fun _ h9 => h9) rfl dX5_known_42 ?_
  refine lv_iconst (v := (1 : Int32)) hx hb dX5_known_45 (by decide) ?_
  refine lv_iadd hx hb dX5_known_46 ?_
  refine va_put (D := G) (ci := 5) (v := .int (vmHN + (1 : Int32))) (ty := .int) (C := RX5) (T := TX5) (N := 17) hx hb hts (fun _ h => List.mem_cons_of_mem _ (List.mem_append_right _ h)) tyX5 tyX5_ok nmX5 hown hK hP hD hS 0 rfl rfl 14 (by decide) (hts _ (List.mem_of_getElem? (i := 5) rfl)) (fun _ h9 => h9) rfl (by decide +kernel) rfl rfl (Nat.le_of_ble_eq_true rfl) dX5_known_47 (fun H locs hP hD hS => ?_)
  replace hP : va_P G vwCl (wdM cI cJ cZ aM aM1 aM2 aM3 aM4 aM6 aM8 aM9 aM10 aM11 aM12 aM13 aM15 vmN vmR vmBN (vmHN + (1 : Int32)) vmL vmLo vmHi vmC vmZ vmB (vp_updL vmT x1.toNatClampNeg (((vmC (x1 / (2 : Int32)).toNatClampNeg).toInt64) + x2)) (upd vmM x1.toNatClampNeg (x4 + (1 : Int32))) (upd vmK x1.toNatClampNeg (vp_nar .boolean (1 : Int32))) vmF vmX vmH vmRow) H := hP
  replace hD : va_D A (wdM cI cJ cZ aM aM1 aM2 aM3 aM4 aM6 aM8 aM9 aM10 aM11 aM12 aM13 aM15 vmN vmR vmBN (vmHN + (1 : Int32)) vmL vmLo vmHi vmC vmZ vmB (vp_updL vmT x1.toNatClampNeg (((vmC (x1 / (2 : Int32)).toNatClampNeg).toInt64) + x2)) (upd vmM x1.toNatClampNeg (x4 + (1 : Int32))) (upd vmK x1.toNatClampNeg (vp_nar .boolean (1 : Int32))) vmF vmX vmH vmRow) := hD
  replace hl : lv_has ls 6 [(0, .ref aM), (1, .int x1), (5, .int vmHN)] := lv_sub hl [1, 2, 0] rfl
  exact b50 N (vmHN + (1 : Int32)) (vp_updL vmT x1.toNatClampNeg (((vmC (x1 / (2 : Int32)).toNatClampNeg).toInt64) + x2)) (upd vmM x1.toNatClampNeg (x4 + (1 : Int32))) (upd vmK x1.toNatClampNeg (vp_nar .boolean (1 : Int32))) vmH vmHN _ _ _ hw hP hD hS hl
def w_X5_pull_b93 (N : Nat) (vmT : Nat → Int64) (vmM : Nat → Int32) (post : Int32 → Int32 → (Nat → Int32) → Prop) (k44 : Int32 → (Nat → Int32) → Int32 → Int32 → Int32 → Int32 → Prop) (vmHN_b93 : Int32) (vmH_b93 : Nat → Int32) (x1_b93 : Int32) (x2_b93 : Int32) (x3_b93 : Int32) (x5_b93 : Int32) : Prop :=
  vp_in x5_b93 4000 ∧ w_X5_isLess N vmT vmM (vmH_b93 x5_b93.toNatClampNeg) x2_b93 (fun r_14 => ((¬ r_14 = (0 : Int32) → vp_in x3_b93 4000 ∧ ((vmHN_b93 ≤ (((2 : Int32) * x5_b93) + (1 : Int32)) → k44 vmHN_b93 (upd vmH_b93 x3_b93.toNatClampNeg (vmH_b93 x5_b93.toNatClampNeg)) x1_b93 x2_b93 x5_b93 (0 : Int32)) ∧ (¬ (vmHN_b93 ≤ (((2 : Int32) * x5_b93) + (1 : Int32))) → k44 vmHN_b93 (upd vmH_b93 x3_b93.toNatClampNeg (vmH_b93 x5_b93.toNatClampNeg)) x1_b93 x2_b93 x5_b93 (1 : Int32)))) ∧ (r_14 = (0 : Int32) → k44 vmHN_b93 vmH_b93 x1_b93 x2_b93 x3_b93 r_14)))
def w_X5_pull_b44_B (N : Nat) (vmT : Nat → Int64) (vmM : Nat → Int32) (post : Int32 → Int32 → (Nat → Int32) → Prop) (k44 : Int32 → (Nat → Int32) → Int32 → Int32 → Int32 → Int32 → Prop) (vmHN_b44 : Int32) (vmH_b44 : Nat → Int32) (x1_b44 : Int32) (x2_b44 : Int32) (x3_b44 : Int32) (x4_b44 : Int32) : Prop :=
  ((x4_b44 = (0 : Int32) → vp_in x3_b44 4000 ∧ post x1_b44 vmHN_b44 (upd vmH_b44 x3_b44.toNatClampNeg x2_b44)) ∧ (¬ (x4_b44 = (0 : Int32)) → ∀ x5_10 : Int32, x5_10 = (((2 : Int32) * x3_b44) + (1 : Int32)) → ((vmHN_b44 ≤ (x5_10 + (1 : Int32)) → w_X5_pull_b93 N vmT vmM post k44 vmHN_b44 vmH_b44 x1_b44 x2_b44 x3_b44 x5_10) ∧ (¬ (vmHN_b44 ≤ (x5_10 + (1 : Int32))) → vp_in (x5_10 + (1 : Int32)) 4000 ∧ vp_in x5_10 4000 ∧ w_X5_isLess N vmT vmM (vmH_b44 (x5_10 + (1 : Int32)).toNatClampNeg) (vmH_b44 x5_10.toNatClampNeg) (fun r_20 => ((r_20 = (0 : Int32) → w_X5_pull_b93 N vmT vmM post k44 vmHN_b44 vmH_b44 x1_b44 x2_b44 x3_b44 x5_10) ∧ (¬ (r_20 = (0 : Int32)) → ∀ x5_22 : Int32, x5_22 = x5_10 + (1 : Int32) → w_X5_pull_b93 N vmT vmM post k44 vmHN_b44 vmH_b44 x1_b44 x2_b44 x3_b44 x5_22)))))))
def w_X5_pull_b44 (N : Nat) (vmT : Nat → Int64) (vmM : Nat → Int32) (post : Int32 → Int32 → (Nat → Int32) → Prop) : Nat → Int32 → (Nat → Int32) → Int32 → Int32 → Int32 → Int32 → Prop
  | 0, _, _, _, _, _, _ => False
  | n + 1, vmHN_b44, vmH_b44, x1_b44, x2_b44, x3_b44, x4_b44 => w_X5_pull_b44_B N vmT vmM post (w_X5_pull_b44 N vmT vmM post n) vmHN_b44 vmH_b44 x1_b44 x2_b44 x3_b44 x4_b44
def w_X5_pull_b42 (N : Nat) (vmT : Nat → Int64) (vmM : Nat → Int32) (post : Int32 → Int32 → (Nat → Int32) → Prop) (vmHN_b42 : Int32) (vmH_b42 : Nat → Int32) (x1_b42 : Int32) (x2_b42 : Int32) (x3_b42 : Int32) (y0_b42 : Int32) : Prop :=
  w_X5_pull_b44 N vmT vmM post N vmHN_b42 vmH_b42 x1_b42 x2_b42 x3_b42 y0_b42
def w_X5_pull (N : Nat) (vmHN : Int32) (vmT : Nat → Int64) (vmM : Nat → Int32) (vmH : Nat → Int32)  (post : Int32 → Int32 → (Nat → Int32) → Prop) : Prop :=
  vp_in (0 : Int32) 4000 ∧ ∀ x1_2 : Int32, x1_2 = (vmH (0 : Int32).toNatClampNeg) → vp_in (vmHN - (1 : Int32)) 4000 ∧ ∀ x2_5 : Int32, x2_5 = (vmH (vmHN - (1 : Int32)).toNatClampNeg) → (((vmHN - (1 : Int32)) ≤ (1 : Int32) → w_X5_pull_b42 N vmT vmM post (vmHN - (1 : Int32)) vmH x1_2 x2_5 (0 : Int32) (0 : Int32)) ∧ (¬ ((vmHN - (1 : Int32)) ≤ (1 : Int32)) → w_X5_pull_b42 N vmT vmM post (vmHN - (1 : Int32)) vmH x1_2 x2_5 (0 : Int32) (1 : Int32)))
abbrev rm_X5_pull : Room := { frames := 1, cells := 0, slots := 0, locals := 22 }
set_option maxHeartbeats 4000000 in
set_option maxRecDepth 100000 in
theorem k_X5_pull (l : Launch) (G : va_G) (cI cJ cZ : ClassId) (aM aM1 aM2 aM3 aM4 aM6 aM8 aM9 aM10 aM11 aM12 aM13 aM15 : Nat) (sz N : Nat) (vmN : Int32) (vmR : Int32) (vmBN : Int32) (vmHN : Int32) (vmL : Int32) (vmLo : Nat → Int32) (vmHi : Nat → Int32) (vmC : Nat → Int32) (vmZ : Nat → Int32) (vmB : Nat → Int32) (vmT : Nat → Int64) (vmM : Nat → Int32) (vmK : Nat → Int32) (vmF : Nat → Int32) (vmX : Nat → Int32) (vmH : Nat → Int32) (vmRow : Nat → Int32)  (post : Int32 → Int32 → (Nat → Int32) → Prop) (hw : w_X5_pull N vmHN vmT vmM vmH post) : Met l yX5_pull wsX5_pull rm_X5_pull (kPc G (tyL cI cJ cZ) [.ref aM] sz (wdM cI cJ cZ aM aM1 aM2 aM3 aM4 aM6 aM8 aM9 aM10 aM11 aM12 aM13 aM15 vmN vmR vmBN vmHN vmL vmLo vmHi vmC vmZ vmB vmT vmM vmK vmF vmX vmH vmRow)) (va_Qi (fun (r : Int32) (u : Int32 × (Nat → Int32)) => post r u.1 u.2) (kB G (tyL cI cJ cZ) (va_A (wdM cI cJ cZ aM aM1 aM2 aM3 aM4 aM6 aM8 aM9 aM10 aM11 aM12 aM13 aM15 vmN vmR vmBN vmHN vmL vmLo vmHi vmC vmZ vmB vmT vmM vmK vmF vmX vmH vmRow) sz) (fun (u : Int32 × (Nat → Int32)) => wdM cI cJ cZ aM aM1 aM2 aM3 aM4 aM6 aM8 aM9 aM10 aM11 aM12 aM13 aM15 vmN vmR vmBN u.1 vmL vmLo vmHi vmC vmZ vmB vmT vmM vmK vmF vmX u.2 vmRow)) (va_A (wdM cI cJ cZ aM aM1 aM2 aM3 aM4 aM6 aM8 aM9 aM10 aM11 aM12 aM13 aM15 vmN vmR vmBN vmHN vmL vmLo vmHi vmC vmZ vmB vmT vmM vmK vmF vmX vmH vmRow) sz)) 0 0 (va_A (wdM cI cJ cZ aM aM1 aM2 aM3 aM4 aM6 aM8 aM9 aM10 aM11 aM12 aM13 aM15 vmN vmR vmBN vmHN vmL vmLo vmHi vmC vmZ vmB vmT vmM vmK vmF vmX vmH vmRow) sz) := by
  refine km_i (cc := cX5_pull) (maxL := 6) (by decide) rfl (Nat.le_of_ble_eq_true rfl) ?_
  intro p e s m below meth c A Q ls hx hb hml hts hown hnm hK hN hA hP hD hS hl hret
  replace hown : s.vm.findClass RX5 = some m.cls := hown
  replace hl : lv_has ls 6 [(0, .ref aM)] := hl
  have b44 : ∀ (n44 : Nat) (vmHN_b44 : Int32) (vmH_b44 : Nat → Int32) (x1_b44 : Int32) (x2_b44 : Int32) (x3_b44 : Int32) (x4_b44 : Int32) (H : Heap) (locs : List Loc) (ls : Array Slot), w_X5_pull_b44 N vmT vmM post n44 vmHN_b44 vmH_b44 x1_b44 x2_b44 x3_b44 x4_b44 → va_P G vwCl (wdM cI cJ cZ aM aM1 aM2 aM3 aM4 aM6 aM8 aM9 aM10 aM11 aM12 aM13 aM15 vmN vmR vmBN vmHN_b44 vmL vmLo vmHi vmC vmZ vmB vmT vmM vmK vmF vmX vmH_b44 vmRow) H → va_D A (wdM cI cJ cZ aM aM1 aM2 aM3 aM4 aM6 aM8 aM9 aM10 aM11 aM12 aM13 aM15 vmN vmR vmBN vmHN_b44 vmL vmLo vmHi vmC vmZ vmB vmT vmM vmK vmF vmX vmH_b44 vmRow) → va_S A s.heap H locs → lv_has ls 6 [(0, .ref aM), (1, .int x1_b44), (2, .int x2_b44), (3, .int x3_b44), (4, .int x4_b44)] → W p l e rm_X5_pull s m ([.ref aM] : List Value).toArray below meth c H locs 0 0 Q (F0 m 44 ls []) := by
    intro n44
    induction n44 with
    | zero => intro vmHN_b44 vmH_b44 x1_b44 x2_b44 x3_b44 x4_b44 H locs ls hw; exact hw.elim
    | succ n44 ih44 =>
      intro vmHN_b44 vmH_b44 x1_b44 x2_b44 x3_b44 x4_b44 H locs ls hw hP hD hS hl
      replace hw : w_X5_pull_b44_B N vmT vmM post (w_X5_pull_b44 N vmT vmM post n44) vmHN_b44 vmH_b44 x1_b44 x2_b44 x3_b44 x4_b44 := hw
      unfold w_X5_pull_b44_B at hw
      have b93 : ∀ (vmHN_b93 : Int32) (vmH_b93 : Nat → Int32) (x1_b93 : Int32) (x2_b93 : Int32) (x3_b93 : Int32) (x5_b93 : Int32) (H : Heap) (locs : List Loc) (ls : Array Slot), w_X5_pull_b93 N vmT vmM post (w_X5_pull_b44 N vmT vmM post n44) vmHN_b93 vmH_b93 x1_b93 x2_b93 x3_b93 x5_b93 → va_P G vwCl (wdM cI cJ cZ aM aM1 aM2 aM3 aM4 aM6 aM8 aM9 aM10 aM11 aM12 aM13 aM15 vmN vmR vmBN vmHN_b93 vmL vmLo vmHi vmC vmZ vmB vmT vmM vmK vmF vmX vmH_b93 vmRow) H → va_D A (wdM cI cJ cZ aM aM1 aM2 aM3 aM4 aM6 aM8 aM9 aM10 aM11 aM12 aM13 aM15 vmN vmR vmBN vmHN_b93 vmL vmLo vmHi vmC vmZ vmB vmT vmM vmK vmF vmX vmH_b93 vmRow) → va_S A s.heap H locs → lv_has ls 6 [(0, .ref aM), (1, .int x1_b93), (2, .int x2_b93), (3, .int x3_b93), (5, .int x5_b93)] → W p l e rm_X5_pull s m ([.ref aM] : List Value).toArray below meth c H locs 0 0 Q (F0 m 93 ls []) := by
        intro vmHN_b93 vmH_b93 x1_b93 x2_b93 x3_b93 x5_b93 H locs ls hw hP hD hS hl
        unfold w_X5_pull_b93 at hw
        refine lv_aload_n hx hb dX5_pull_93 rfl (lv_at hl 0 rfl) ?_
        refine lv_aload_n hx hb dX5_pull_94 rfl (lv_at hl 0 rfl) ?_
        refine va_get (D := G) (ci := 5) (v := .ref aM13) (C := RX5) (T := TX5) (N := 17) hx hb hts (fun _ h => List.mem_cons_of_mem _ (List.mem_append_right _ h)) hown hK hP 0 rfl rfl 13 (by decide) (hts _ (List.mem_of_getElem? (i := 1) rfl)) (fun _ h9 => h9) rfl dX5_pull_95 ?_
        refine lv_iload hx hb dX5_pull_98 (lv_at hl 4 rfl) ?_
        have h_13 := hw.1
        replace hw := hw.2
        refine va_iald hx hb hK hP 11 0 rfl rfl h_13 dX5_pull_100 ?_
        refine lv_iload_n hx hb dX5_pull_101 rfl (lv_at hl 2 rfl) ?_
        refine kc_Vi (As := [.int (vmH_b93 x5_b93.toNatClampNeg), .int x2_b93]) (rest := []) (wc := wdM cI cJ cZ aM aM1 aM2 aM3 aM4 aM6 aM8 aM9 aM10 aM11 aM12 aM13 aM15 vmN vmR vmBN vmHN_b93 vmL vmLo vmHi vmC vmZ vmB vmT vmM vmK vmF vmX vmH_b93 vmRow) (wr := []) ⟨hx, hb, hml, hown, hts⟩ (cwV 2 hts gX5_pull_X5_isLess rfl rfl rfl (by decide +kernel) ⟨Nat.le_of_ble_eq_true rfl, Nat.le_of_ble_eq_true rfl⟩) hK hN hA hP hD hS [0, 1, 2, 3, 4, 5, 6, 7, 8, 9, 10, 11, 12] [] rfl rfl (by decide) (by decide) (by decide) 0 rfl rfl (k_X5_isLess l G cI cJ cZ aM aM1 aM2 aM3 aM4 aM6 aM8 aM9 aM10 aM11 aM12 aM13 aM15 _ N vmN vmR vmBN vmHN_b93 vmL vmLo vmHi vmC vmZ vmB vmT vmM vmK vmF vmX vmH_b93 vmRow (vmH_b93 x5_b93.toNatClampNeg) x2_b93 _ hw) rfl hl.1 rfl (Nat.le_of_ble_eq_true rfl) dX5_pull_102 ⟨Nat.le_of_ble_eq_true rfl, Nat.le_of_ble_eq_true rfl⟩ (fun r_14 u_ H locs hw hP hD hS => ?_)
        replace hP : va_P G vwCl (wdM cI cJ cZ aM aM1 aM2 aM3 aM4 aM6 aM8 aM9 aM10 aM11 aM12 aM13 aM15 vmN vmR vmBN vmHN_b93 vmL vmLo vmHi vmC vmZ vmB vmT vmM vmK vmF vmX vmH_b93 vmRow) H := hP.sub [0, 1, 2, 3, 4, 5, 6, 7, 8, 9, 10, 11, 12] rfl
        replace hD : va_D A (wdM cI cJ cZ aM aM1 aM2 aM3 aM4 aM6 aM8 aM9 aM10 aM11 aM12 aM13 aM15 vmN vmR vmBN vmHN_b93 vmL vmLo vmHi vmC vmZ vmB vmT vmM vmK vmF vmX vmH_b93 vmRow) := hD.sub [0, 1, 2, 3, 4, 5, 6, 7, 8, 9, 10, 11, 12] (by decide) rfl
        refine lv_istore (lv' := [(4, .int r_14), (0, .ref aM), (1, .int x1_b93), (2, .int x2_b93), (3, .int x3_b93), (5, .int x5_b93)]) hx hb dX5_pull_105 hl (by decide) rfl (fun ls hl => ?_)
        refine lv_iload hx hb dX5_pull_107 (lv_at hl 0 rfl) ?_
        refine lv_if_ne (tgt := 115) hx hb dX5_pull_109 (by decide) (fun c_15 => ?_) (fun c_15 => ?_)
        · replace hw := hw.1 c_15
          refine lv_aload_n hx hb dX5_pull_115 rfl (lv_at hl 1 rfl) ?_
          refine va_get (D := G) (ci := 5) (v := .ref aM13) (C := RX5) (T := TX5) (N := 17) hx hb hts (fun _ h => List.mem_cons_of_mem _ (List.mem_append_right _ h)) hown hK hP 0 rfl rfl 13 (by decide) (hts _ (List.mem_of_getElem? (i := 1) rfl)) (fun _ h9 => h9) rfl dX5_pull_116 ?_
          refine lv_iload_n hx hb dX5_pull_119 rfl (lv_at hl 4 rfl) ?_
          refine lv_aload_n hx hb dX5_pull_120 rfl (lv_at hl 1 rfl) ?_
          refine va_get (D := G) (ci := 5) (v := .ref aM13) (C := RX5) (T := TX5) (N := 17) hx hb hts (fun _ h => List.mem_cons_of_mem _ (List.mem_append_right _ h)) hown hK hP 0 rfl rfl 13 (by decide) (hts _ (List.mem_of_getElem? (i := 1) rfl)) (fun _ h9 => h9) rfl dX5_pull_121 ?_
          refine lv_iload hx hb dX5_pull_124 (lv_at hl 5 rfl) ?_
          refine va_iald hx hb hK hP 11 0 rfl rfl h_13 dX5_pull_126 ?_
          have h_16 := hw.1
          replace hw := hw.2
          refine va_iast hx hb hK hP hD hS 11 0 rfl rfl h_16 dX5_pull_127 (fun H locs hP hD hS => ?_)
          replace hP : va_P G vwCl (wdM cI cJ cZ aM aM1 aM2 aM3 aM4 aM6 aM8 aM9 aM10 aM11 aM12 aM13 aM15 vmN vmR vmBN vmHN_b93 vmL vmLo vmHi vmC vmZ vmB vmT vmM vmK vmF vmX (upd vmH_b93 x3_b93.toNatClampNeg (vmH_b93 x5_b93.toNatClampNeg)) vmRow) H := hP
          replace hD : va_D A (wdM cI cJ cZ aM aM1 aM2 aM3 aM4 aM6 aM8 aM9 aM10 aM11 aM12 aM13 aM15 vmN vmR vmBN vmHN_b93 vmL vmLo vmHi vmC vmZ vmB vmT vmM vmK vmF vmX (upd vmH_b93 x3_b93.toNatClampNeg (vmH_b93 x5_b93.toNatClampNeg)) vmRow) := hD
          refine lv_iload hx hb dX5_pull_128 (lv_at hl 5 rfl) ?_
          refine lv_istore_n (lv' := [(3, .int x5_b93), (4, .int r_14), (0, .ref aM), (1, .int x1_b93), (2, .int x2_b93), (5, .int x5_b93)]) hx hb dX5_pull_130 rfl hl (by decide) rfl (fun ls hl => ?_)
          refine lv_iconst (v := (2 : Int32)) hx hb dX5_pull_131 (by decide) ?_
          refine lv_iload_n hx hb dX5_pull_132 rfl (lv_at hl 0 rfl) ?_
          refine lv_imul hx hb dX5_pull_133 ?_
          refine lv_iconst (v := (1 : Int32)) hx hb dX5_pull_134 (by decide) ?_
          refine lv_iadd hx hb dX5_pull_135 ?_
          refine lv_aload_n hx hb dX5_pull_136 rfl (lv_at hl 2 rfl) ?_
          refine va_get (D := G) (ci := 5) (v := .int vmHN_b93) (C := RX5) (T := TX5) (N := 17) hx hb hts (fun _ h => List.mem_cons_of_mem _ (List.mem_append_right _ h)) hown hK hP 0 rfl rfl 14 (by decide) (hts _ (List.mem_of_getElem? (i := 2) rfl)) (fun _ h9 => h9) rfl dX5_pull_137 ?_
          refine lv_icmp_ge (tgt := 147) hx hb dX5_pull_140 (by decide) (fun c_17 => ?_) (fun c_17 => ?_)
          · replace hw := hw.1 c_17
            refine lv_iconst (v := (0 : Int32)) hx hb dX5_pull_147 (by decide) ?_
            refine lv_istore (lv' := [(4, .int (0 : Int32)), (3, .int x5_b93), (0, .ref aM), (1, .int x1_b93), (2, .int x2_b93), (5, .int x5_b93)]) hx hb dX5_pull_148 hl (by decide) rfl (fun ls hl => ?_)
            refine lv_goto (tgt := 44) hx hb dX5_pull_150 (by decide) ?_
            replace hl : lv_has ls 6 [(0, .ref aM), (1, .int x1_b93), (2, .int x2_b93), (3, .int x5_b93), (4, .int (0 : Int32))] := lv_sub hl [2, 3, 4, 1, 0] rfl
            exact ih44 vmHN_b93 (upd vmH_b93 x3_b93.toNatClampNeg (vmH_b93 x5_b93.toNatClampNeg)) x1_b93 x2_b93 x5_b93 (0 : Int32) _ _ _ hw hP hD hS hl
          · replace hw := hw.2 c_17
            refine lv_iconst (v := (1 : Int32)) hx hb dX5_pull_143 (by decide) ?_
            refine lv_goto (tgt := 148) hx hb dX5_pull_144 (by decide) ?_
            refine lv_istore (lv' := [(4, .int (1 : Int32)), (3, .int x5_b93), (0, .ref aM), (1, .int x1_b93), (2, .int x2_b93), (5, .int x5_b93)]) hx hb dX5_pull_148 hl (by decide) rfl (fun ls hl => ?_)
            refine lv_goto (tgt := 44) hx hb dX5_pull_150 (by decide) ?_
            replace hl : lv_has ls 6 [(0, .ref aM), (1, .int x1_b93), (2, .int x2_b93), (3, .int x5_b93), (4, .int (1 : Int32))] := lv_sub hl [2, 3, 4, 1, 0] rfl
            exact ih44 vmHN_b93 (upd vmH_b93 x3_b93.toNatClampNeg (vmH_b93 x5_b93.toNatClampNeg)) x1_b93 x2_b93 x5_b93 (1 : Int32) _ _ _ hw hP hD hS hl
        · replace hw := hw.2 c_15
          refine lv_goto (tgt := 44) hx hb dX5_pull_112 (by decide) ?_
          replace hl : lv_has ls 6 [(0, .ref aM), (1, .int x1_b93), (2, .int x2_b93), (3, .int x3_b93), (4, .int r_14)] := lv_sub hl [1, 2, 3, 4, 0] rfl
          exact ih44 vmHN_b93 vmH_b93 x1_b93 x2_b93 x3_b93 r_14 _ _ _ hw hP hD hS hl
      refine lv_iload hx hb dX5_pull_44 (lv_at hl 4 rfl) ?_
      refine lv_if_eq (tgt := 153) hx hb dX5_pull_46 (by decide) (fun c_8 => ?_) (fun c_8 => ?_)
      · replace hw := hw.1 c_8
        refine lv_aload_n hx hb dX5_pull_153 rfl (lv_at hl 0 rfl) ?_
        refine va_get (D := G) (ci := 5) (v := .ref aM13) (C := RX5) (T := TX5) (N := 17) hx hb hts (fun _ h => List.mem_cons_of_mem _ (List.mem_append_right _ h)) hown hK hP 0 rfl rfl 13 (by decide) (hts _ (List.mem_of_getElem? (i := 1) rfl)) (fun _ h9 => h9) rfl dX5_pull_154 ?_
        refine lv_iload_n hx hb dX5_pull_157 rfl (lv_at hl 3 rfl) ?_
        refine lv_iload_n hx hb dX5_pull_158 rfl (lv_at hl 2 rfl) ?_
        have h_9 := hw.1
        replace hw := hw.2
        refine va_iast hx hb hK hP hD hS 11 0 rfl rfl h_9 dX5_pull_159 (fun H locs hP hD hS => ?_)
        replace hP : va_P G vwCl (wdM cI cJ cZ aM aM1 aM2 aM3 aM4 aM6 aM8 aM9 aM10 aM11 aM12 aM13 aM15 vmN vmR vmBN vmHN_b44 vmL vmLo vmHi vmC vmZ vmB vmT vmM vmK vmF vmX (upd vmH_b44 x3_b44.toNatClampNeg x2_b44) vmRow) H := hP
        replace hD : va_D A (wdM cI cJ cZ aM aM1 aM2 aM3 aM4 aM6 aM8 aM9 aM10 aM11 aM12 aM13 aM15 vmN vmR vmBN vmHN_b44 vmL vmLo vmHi vmC vmZ vmB vmT vmM vmK vmF vmX (upd vmH_b44 x3_b44.toNatClampNeg x2_b44) vmRow) := hD
        refine lv_iload_n hx hb dX5_pull_160 rfl (lv_at hl 1 rfl) ?_
        exact hret 161 x1_b44 (vmHN_b44, (upd vmH_b44 x3_b44.toNatClampNeg x2_b44)) _ _ _ dX5_pull_161 hw hP hD hS
      · replace hw := hw.2 c_8
        refine lv_iconst (v := (2 : Int32)) hx hb dX5_pull_49 (by decide) ?_
        refine lv_iload_n hx hb dX5_pull_50 rfl (lv_at hl 3 rfl) ?_
        refine lv_imul hx hb dX5_pull_51 ?_
        refine lv_iconst (v := (1 : Int32)) hx hb dX5_pull_52 (by decide) ?_
        refine lv_iadd hx hb dX5_pull_53 ?_
        refine lv_topi (fun x5_10 e_11 => ?_)
        replace hw := hw x5_10 e_11
        refine lv_istore (lv' := [(5, .int x5_10), (0, .ref aM), (1, .int x1_b44), (2, .int x2_b44), (3, .int x3_b44), (4, .int x4_b44)]) hx hb dX5_pull_54 hl (by decide) rfl (fun ls hl => ?_)
        refine lv_iload hx hb dX5_pull_56 (lv_at hl 0 rfl) ?_
        refine lv_iconst (v := (1 : Int32)) hx hb dX5_pull_58 (by decide) ?_
        refine lv_iadd hx hb dX5_pull_59 ?_
        refine lv_aload_n hx hb dX5_pull_60 rfl (lv_at hl 1 rfl) ?_
        refine va_get (D := G) (ci := 5) (v := .int vmHN_b44) (C := RX5) (T := TX5) (N := 17) hx hb hts (fun _ h => List.mem_cons_of_mem _ (List.mem_append_right _ h)) hown hK hP 0 rfl rfl 14 (by decide) (hts _ (List.mem_of_getElem? (i := 2) rfl)) (fun _ h9 => h9) rfl dX5_pull_61 ?_
        refine lv_icmp_ge (tgt := 93) hx hb dX5_pull_64 (by decide) (fun c_12 => ?_) (fun c_12 => ?_)
        · replace hw := hw.1 c_12
          replace hl : lv_has ls 6 [(0, .ref aM), (1, .int x1_b44), (2, .int x2_b44), (3, .int x3_b44), (5, .int x5_10)] := lv_sub hl [1, 2, 3, 4, 0] rfl
          exact b93 vmHN_b44 vmH_b44 x1_b44 x2_b44 x3_b44 x5_10 _ _ _ hw hP hD hS hl
        · replace hw := hw.2 c_12
          refine lv_aload_n hx hb dX5_pull_67 rfl (lv_at hl 1 rfl) ?_
          refine lv_aload_n hx hb dX5_pull_68 rfl (lv_at hl 1 rfl) ?_
          refine va_get (D := G) (ci := 5) (v := .ref aM13) (C := RX5) (T := TX5) (N := 17) hx hb hts (fun _ h => List.mem_cons_of_mem _ (List.mem_append_right _ h)) hown hK hP 0 rfl rfl 13 (by decide) (hts _ (List.mem_of_getElem? (i := 1) rfl)) (fun _ h9 => h9) rfl dX5_pull_69 ?_
          refine lv_iload hx hb dX5_pull_72 (lv_at hl 0 rfl) ?_
          refine lv_iconst (v := (1 : Int32)) hx hb dX5_pull_74 (by decide) ?_
          refine lv_iadd hx hb dX5_pull_75 ?_
          have h_18 := hw.1
          replace hw := hw.2
          refine va_iald hx hb hK hP 11 0 rfl rfl h_18 dX5_pull_76 ?_
          refine lv_aload_n hx hb dX5_pull_77 rfl (lv_at hl 1 rfl) ?_
          refine va_get (D := G) (ci := 5) (v := .ref aM13) (C := RX5) (T := TX5) (N := 17) hx hb hts (fun _ h => List.mem_cons_of_mem _ (List.mem_append_right _ h)) hown hK hP 0 rfl rfl 13 (by decide) (hts _ (List.mem_of_getElem? (i := 1) rfl)) (fun _ h9 => h9) rfl dX5_pull_78 ?_
          refine lv_iload hx hb dX5_pull_81 (lv_at hl 0 rfl) ?_
          have h_19 := hw.1
          replace hw := hw.2
          refine va_iald hx hb hK hP 11 0 rfl rfl h_19 dX5_pull_83 ?_
          refine kc_Vi (As := [.int (vmH_b44 (x5_10 + (1 : Int32)).toNatClampNeg), .int (vmH_b44 x5_10.toNatClampNeg)]) (rest := []) (wc := wdM cI cJ cZ aM aM1 aM2 aM3 aM4 aM6 aM8 aM9 aM10 aM11 aM12 aM13 aM15 vmN vmR vmBN vmHN_b44 vmL vmLo vmHi vmC vmZ vmB vmT vmM vmK vmF vmX vmH_b44 vmRow) (wr := []) ⟨hx, hb, hml, hown, hts⟩ (cwV 2 hts gX5_pull_X5_isLess rfl rfl rfl (by decide +kernel) ⟨Nat.le_of_ble_eq_true rfl, Nat.le_of_ble_eq_true rfl⟩) hK hN hA hP hD hS [0, 1, 2, 3, 4, 5, 6, 7, 8, 9, 10, 11, 12] [] rfl rfl (by decide) (by decide) (by decide) 0 rfl rfl (k_X5_isLess l G cI cJ cZ aM aM1 aM2 aM3 aM4 aM6 aM8 aM9 aM10 aM11 aM12 aM13 aM15 _ N vmN vmR vmBN vmHN_b44 vmL vmLo vmHi vmC vmZ vmB vmT vmM vmK vmF vmX vmH_b44 vmRow (vmH_b44 (x5_10 + (1 : Int32)).toNatClampNeg) (vmH_b44 x5_10.toNatClampNeg) _ hw) rfl hl.1 rfl (Nat.le_of_ble_eq_true rfl) dX5_pull_84 ⟨Nat.le_of_ble_eq_true rfl, Nat.le_of_ble_eq_true rfl⟩ (fun r_20 u_ H locs hw hP hD hS => ?_)
          replace hP : va_P G vwCl (wdM cI cJ cZ aM aM1 aM2 aM3 aM4 aM6 aM8 aM9 aM10 aM11 aM12 aM13 aM15 vmN vmR vmBN vmHN_b44 vmL vmLo vmHi vmC vmZ vmB vmT vmM vmK vmF vmX vmH_b44 vmRow) H := hP.sub [0, 1, 2, 3, 4, 5, 6, 7, 8, 9, 10, 11, 12] rfl
          replace hD : va_D A (wdM cI cJ cZ aM aM1 aM2 aM3 aM4 aM6 aM8 aM9 aM10 aM11 aM12 aM13 aM15 vmN vmR vmBN vmHN_b44 vmL vmLo vmHi vmC vmZ vmB vmT vmM vmK vmF vmX vmH_b44 vmRow) := hD.sub [0, 1, 2, 3, 4, 5, 6, 7, 8, 9, 10, 11, 12] (by decide) rfl
          refine lv_if_eq (tgt := 93) hx hb dX5_pull_87 (by decide) (fun c_21 => ?_) (fun c_21 => ?_)
          · replace hw := hw.1 c_21
            replace hl : lv_has ls 6 [(0, .ref aM), (1, .int x1_b44), (2, .int x2_b44), (3, .int x3_b44), (5, .int x5_10)] := lv_sub hl [1, 2, 3, 4, 0] rfl
            exact b93 vmHN_b44 vmH_b44 x1_b44 x2_b44 x3_b44 x5_10 _ _ _ hw hP hD hS hl
          · replace hw := hw.2 c_21
            obtain ⟨x5_22, e_23⟩ : ∃ y : Int32, y = x5_10 + (1 : Int32) := ⟨_, rfl⟩
            replace hw := hw x5_22 e_23
            refine lv_iinc (v := x5_22) (lv' := [(5, .int x5_22), (0, .ref aM), (1, .int x1_b44), (2, .int x2_b44), (3, .int x3_b44), (4, .int x4_b44)]) hx hb dX5_pull_90 hl (k := 0) rfl (by rw [e_23]; rfl) (by decide) rfl (fun ls hl => ?_)
            replace hl : lv_has ls 6 [(0, .ref aM), (1, .int x1_b44), (2, .int x2_b44), (3, .int x3_b44), (5, .int x5_22)] := lv_sub hl [1, 2, 3, 4, 0] rfl
            exact b93 vmHN_b44 vmH_b44 x1_b44 x2_b44 x3_b44 x5_22 _ _ _ hw hP hD hS hl
  have b42 : ∀ (vmHN_b42 : Int32) (vmH_b42 : Nat → Int32) (x1_b42 : Int32) (x2_b42 : Int32) (x3_b42 : Int32) (y0_b42 : Int32) (H : Heap) (locs : List Loc) (ls : Array Slot), w_X5_pull_b42 N vmT vmM post vmHN_b42 vmH_b42 x1_b42 x2_b42 x3_b42 y0_b42 → va_P G vwCl (wdM cI cJ cZ aM aM1 aM2 aM3 aM4 aM6 aM8 aM9 aM10 aM11 aM12 aM13 aM15 vmN vmR vmBN vmHN_b42 vmL vmLo vmHi vmC vmZ vmB vmT vmM vmK vmF vmX vmH_b42 vmRow) H → va_D A (wdM cI cJ cZ aM aM1 aM2 aM3 aM4 aM6 aM8 aM9 aM10 aM11 aM12 aM13 aM15 vmN vmR vmBN vmHN_b42 vmL vmLo vmHi vmC vmZ vmB vmT vmM vmK vmF vmX vmH_b42 vmRow) → va_S A s.heap H locs → lv_has ls 6 [(0, .ref aM), (1, .int x1_b42), (2, .int x2_b42), (3, .int x3_b42)] → W p l e rm_X5_pull s m ([.ref aM] : List Value).toArray below meth c H locs 0 0 Q (F0 m 42 ls [.int y0_b42]) := by
    intro vmHN_b42 vmH_b42 x1_b42 x2_b42 x3_b42 y0_b42 H locs ls hw hP hD hS hl
    unfold w_X5_pull_b42 at hw
    refine lv_istore (lv' := [(4, .int y0_b42), (0, .ref aM), (1, .int x1_b42), (2, .int x2_b42), (3, .int x3_b42)]) hx hb dX5_pull_42 hl (by decide) rfl (fun ls hl => ?_)
    replace hl : lv_has ls 6 [(0, .ref aM), (1, .int x1_b42), (2, .int x2_b42), (3, .int x3_b42), (4, .int y0_b42)] := lv_sub hl [1, 2, 3, 4, 0] rfl
    exact b44 N vmHN_b42 vmH_b42 x1_b42 x2_b42 x3_b42 y0_b42 _ _ _ hw hP hD hS hl
  unfold w_X5_pull at hw
  refine lv_aload_n hx hb dX5_pull_0 rfl (lv_at hl 0 rfl) ?_
  refine va_get (D := G) (ci := 5) (v := .ref aM13) (C := RX5) (T := TX5) (N := 17) hx hb hts (fun _ h => List.mem_cons_of_mem _ (List.mem_append_right _ h)) hown hK hP 0 rfl rfl 13 (by decide) (hts _ (List.mem_of_getElem? (i := 1) rfl)) (fun _ h9 => h9) rfl dX5_pull_1 ?_
  refine lv_iconst (v := (0 : Int32)) hx hb dX5_pull_4 (by decide) ?_
  have h_1 := hw.1
  replace hw := hw.2
  refine va_iald hx hb hK hP 11 0 rfl rfl h_1 dX5_pull_5 ?_
  refine lv_topi (fun x1_2 e_3 => ?_)
  replace hw := hw x1_2 e_3
  refine lv_istore_n (lv' := [(1, .int x1_2), (0, .ref aM)]) hx hb dX5_pull_6 rfl hl (by decide) rfl (fun ls hl => ?_)
  refine lv_aload_n hx hb dX5_pull_7 rfl (lv_at hl 1 rfl) ?_
  refine lv_dup hx hb dX5_pull_8 rfl ?_
  refine va_get (D := G) (ci := 5) (v := .int vmHN) (C := RX5) (T := TX5) (N := 17) hx hb hts (fun _ h => List.mem_cons_of_mem _ (List.mem_append_right _ h)) hown hK hP 0 rfl rfl 14 (by decide) (hts _ (List.mem_of_getElem? (i := 2) rfl)) (fun _ h9 => h9) rfl dX5_pull_9 ?_
  refine lv_iconst (v := (1 : Int32)) hx hb dX5_pull_12 (by decide) ?_
  refine lv_isub hx hb dX5_pull_13 ?_
  refine va_put (D := G) (ci := 5) (v := .int (vmHN - (1 : Int32))) (ty := .int) (C := RX5) (T := TX5) (N := 17) hx hb hts (fun _ h => List.mem_cons_of_mem _ (List.mem_append_right _ h)) tyX5 tyX5_ok nmX5 hown hK hP hD hS 0 rfl rfl 14 (by decide) (hts _ (List.mem_of_getElem? (i := 2) rfl)) (fun _ h9 => h9) rfl (by decide +kernel) rfl rfl (Nat.le_of_ble_eq_true rfl) dX5_pull_14 (fun H locs hP hD hS => ?_)
  replace hP : va_P G vwCl (wdM cI cJ cZ aM aM1 aM2 aM3 aM4 aM6 aM8 aM9 aM10 aM11 aM12 aM13 aM15 vmN vmR vmBN (vmHN - (1 : Int32)) vmL vmLo vmHi vmC vmZ vmB vmT vmM vmK vmF vmX vmH vmRow) H := hP
  replace hD : va_D A (wdM cI cJ cZ aM aM1 aM2 aM3 aM4 aM6 aM8 aM9 aM10 aM11 aM12 aM13 aM15 vmN vmR vmBN (vmHN - (1 : Int32)) vmL vmLo vmHi vmC vmZ vmB vmT vmM vmK vmF vmX vmH vmRow) := hD
  refine lv_aload_n hx hb dX5_pull_17 rfl (lv_at hl 1 rfl) ?_
  refine va_get (D := G) (ci := 5) (v := .ref aM13) (C := RX5) (T := TX5) (N := 17) hx hb hts (fun _ h => List.mem_cons_of_mem _ (List.mem_append_right _ h)) hown hK hP 0 rfl rfl 13 (by decide) (hts _ (List.mem_of_getElem? (i := 1) rfl)) (fun _ h9 => h9) rfl dX5_pull_18 ?_
  refine lv_aload_n hx hb dX5_pull_21 rfl (lv_at hl 1 rfl) ?_
  refine va_get (D := G) (ci := 5) (v := .int (vmHN - (1 : Int32))) (C := RX5) (T := TX5) (N := 17) hx hb hts (fun _ h => List.mem_cons_of_mem _ (List.mem_append_right _ h)) hown hK hP 0 rfl rfl 14 (by decide) (hts _ (List.mem_of_getElem? (i := 2) rfl)) (fun _ h9 => h9) rfl dX5_pull_22 ?_
  have h_4 := hw.1
  replace hw := hw.2
  refine va_iald hx hb hK hP 11 0 rfl rfl h_4 dX5_pull_25 ?_
  refine lv_topi (fun x2_5 e_6 => ?_)
  replace hw := hw x2_5 e_6
  refine lv_istore_n (lv' := [(2, .int x2_5), (1, .int x1_2), (0, .ref aM)]) hx hb dX5_pull_26 rfl hl (by decide) rfl (fun ls hl => ?_)
  refine lv_iconst (v := (0 : Int32)) hx hb dX5_pull_27 (by decide) ?_
  refine lv_istore_n (lv' := [(3, .int (0 : Int32)), (2, .int x2_5), (1, .int x1_2), (0, .ref aM)]) hx hb dX5_pull_28 rfl hl (by decide) rfl (fun ls hl => ?_)
  refine lv_iconst (v := (1 : Int32)) hx hb dX5_pull_29 (by decide) ?_
  refine lv_aload_n hx hb dX5_pull_30 rfl (lv_at hl 3 rfl) ?_
  refine va_get (D := G) (ci := 5) (v := .int (vmHN - (1 : Int32))) (C := RX5) (T := TX5) (N := 17) hx hb hts (fun _ h => List.mem_cons_of_mem _ (List.mem_append_right _ h)) hown hK hP 0 rfl rfl 14 (by decide) (hts _ (List.mem_of_getElem? (i := 2) rfl)) (fun _ h9 => h9) rfl dX5_pull_31 ?_
  refine lv_icmp_ge (tgt := 41) hx hb dX5_pull_34 (by decide) (fun c_7 => ?_) (fun c_7 => ?_)
  · replace hw := hw.1 c_7
    refine lv_iconst (v := (0 : Int32)) hx hb dX5_pull_41 (by decide) ?_
    replace hl : lv_has ls 6 [(0, .ref aM), (1, .int x1_2), (2, .int x2_5), (3, .int (0 : Int32))] := lv_sub hl [3, 2, 1, 0] rfl
    exact b42 (vmHN - (1 : Int32)) vmH x1_2 x2_5 (0 : Int32) (0 : Int32) _ _ _ hw hP hD hS hl
  · replace hw := hw.2 c_7
    refine lv_iconst (v := (1 : Int32)) hx hb dX5_pull_37 (by decide) ?_
    refine lv_goto (tgt := 42) hx hb dX5_pull_38 (by decide) ?_
    replace hl : lv_has ls 6 [(0, .ref aM), (1, .int x1_2), (2, .int x2_5), (3, .int (0 : Int32))] := lv_sub hl [3, 2, 1, 0] rfl
    exact b42 (vmHN - (1 : Int32)) vmH x1_2 x2_5 (0 : Int32) (1 : Int32) _ _ _ hw hP hD hS hl
def w_X5_begin_b37_B (N : Nat) (vmLo : Nat → Int32) (vmHi : Nat → Int32) (vmZ : Nat → Int32) (post : Int32 → (Nat → Int32) → (Nat → Int32) → (Nat → Int32) → Prop) (k37 : Int32 → (Nat → Int32) → (Nat → Int32) → (Nat → Int32) → Int32 → Prop) (vmHN_b37 : Int32) (vmK_b37 : Nat → Int32) (vmF_b37 : Nat → Int32) (vmX_b37 : Nat → Int32) (x1_b37 : Int32) : Prop :=
  ((x1_b37 < (0 : Int32) → post vmHN_b37 vmK_b37 vmF_b37 vmX_b37) ∧ (¬ (x1_b37 < (0 : Int32)) → vp_in x1_b37 4000 ∧ vp_in (x1_b37 / (2 : Int32)) 2000 ∧ (((vmZ (x1_b37 / (2 : Int32)).toNatClampNeg) = (0 : Int32) → w_X5_start N vmLo vmHi x1_b37 (fun r_8 => vp_in r_8 300 ∧ w_X5_start N vmLo vmHi x1_b37 (fun r_10 => vp_in r_10 300 ∧ ∀ x1_12 : Int32, x1_12 = x1_b37 + (-1 : Int32) → k37 vmHN_b37 (upd vmK_b37 x1_b37.toNatClampNeg (vp_nar .boolean (0 : Int32))) (upd vmF_b37 r_10.toNatClampNeg x1_b37) (upd vmX_b37 x1_b37.toNatClampNeg (vmF_b37 r_8.toNatClampNeg)) x1_12))) ∧ (¬ ((vmZ (x1_b37 / (2 : Int32)).toNatClampNeg) = (0 : Int32)) → ∀ x1_14 : Int32, x1_14 = x1_b37 + (-1 : Int32) → k37 vmHN_b37 (upd vmK_b37 x1_b37.toNatClampNeg (vp_nar .boolean (0 : Int32))) vmF_b37 vmX_b37 x1_14))))
def w_X5_begin_b37 (N : Nat) (vmLo : Nat → Int32) (vmHi : Nat → Int32) (vmZ : Nat → Int32) (post : Int32 → (Nat → Int32) → (Nat → Int32) → (Nat → Int32) → Prop) : Nat → Int32 → (Nat → Int32) → (Nat → Int32) → (Nat → Int32) → Int32 → Prop
  | 0, _, _, _, _, _ => False
  | n + 1, vmHN_b37, vmK_b37, vmF_b37, vmX_b37, x1_b37 => w_X5_begin_b37_B N vmLo vmHi vmZ post (w_X5_begin_b37 N vmLo vmHi vmZ post n) vmHN_b37 vmK_b37 vmF_b37 vmX_b37 x1_b37
def w_X5_begin_b7_B (N : Nat) (vmN : Int32) (vmR : Int32) (vmLo : Nat → Int32) (vmHi : Nat → Int32) (vmZ : Nat → Int32) (post : Int32 → (Nat → Int32) → (Nat → Int32) → (Nat → Int32) → Prop) (k7 : Int32 → (Nat → Int32) → (Nat → Int32) → (Nat → Int32) → Int32 → Prop) (vmHN_b7 : Int32) (vmK_b7 : Nat → Int32) (vmF_b7 : Nat → Int32) (vmX_b7 : Nat → Int32) (x1_b7 : Int32) : Prop :=
  ((vmN ≤ x1_b7 → ∀ x1_2 : Int32, x1_2 = (((2 : Int32) * vmR) - (1 : Int32)) → w_X5_begin_b37 N vmLo vmHi vmZ post N vmHN_b7 vmK_b7 vmF_b7 vmX_b7 x1_2) ∧ (¬ (vmN ≤ x1_b7) → vp_in x1_b7 300 ∧ ∀ x1_17 : Int32, x1_17 = x1_b7 + (1 : Int32) → k7 vmHN_b7 vmK_b7 (upd vmF_b7 x1_b7.toNatClampNeg (-1 : Int32)) vmX_b7 x1_17))
def w_X5_begin_b7 (N : Nat) (vmN : Int32) (vmR : Int32) (vmLo : Nat → Int32) (vmHi : Nat → Int32) (vmZ : Nat → Int32) (post : Int32 → (Nat → Int32) → (Nat → Int32) → (Nat → Int32) → Prop) : Nat → Int32 → (Nat → Int32) → (Nat → Int32) → (Nat → Int32) → Int32 → Prop
  | 0, _, _, _, _, _ => False
  | n + 1, vmHN_b7, vmK_b7, vmF_b7, vmX_b7, x1_b7 => w_X5_begin_b7_B N vmN vmR vmLo vmHi vmZ post (w_X5_begin_b7 N vmN vmR vmLo vmHi vmZ post n) vmHN_b7 vmK_b7 vmF_b7 vmX_b7 x1_b7
def w_X5_begin (N : Nat) (vmN : Int32) (vmR : Int32) (vmHN : Int32) (vmLo : Nat → Int32) (vmHi : Nat → Int32) (vmZ : Nat → Int32) (vmK : Nat → Int32) (vmF : Nat → Int32) (vmX : Nat → Int32)  (post : Int32 → (Nat → Int32) → (Nat → Int32) → (Nat → Int32) → Prop) : Prop :=
  w_X5_begin_b7 N vmN vmR vmLo vmHi vmZ post N (0 : Int32) vmK vmF vmX (0 : Int32)
abbrev rm_X5_begin : Room := { frames := 1, cells := 0, slots := 0, locals := 21 }
set_option maxHeartbeats 4000000 in
set_option maxRecDepth 100000 in
theorem k_X5_begin (l : Launch) (G : va_G) (cI cJ cZ : ClassId) (aM aM1 aM2 aM3 aM4 aM6 aM8 aM9 aM10 aM11 aM12 aM13 aM15 : Nat) (sz N : Nat) (vmN : Int32) (vmR : Int32) (vmBN : Int32) (vmHN : Int32) (vmL : Int32) (vmLo : Nat → Int32) (vmHi : Nat → Int32) (vmC : Nat → Int32) (vmZ : Nat → Int32) (vmB : Nat → Int32) (vmT : Nat → Int64) (vmM : Nat → Int32) (vmK : Nat → Int32) (vmF : Nat → Int32) (vmX : Nat → Int32) (vmH : Nat → Int32) (vmRow : Nat → Int32)  (post : Int32 → (Nat → Int32) → (Nat → Int32) → (Nat → Int32) → Prop) (hw : w_X5_begin N vmN vmR vmHN vmLo vmHi vmZ vmK vmF vmX post) : Met l yX5_begin wsX5_begin rm_X5_begin (kPc G (tyL cI cJ cZ) [.ref aM] sz (wdM cI cJ cZ aM aM1 aM2 aM3 aM4 aM6 aM8 aM9 aM10 aM11 aM12 aM13 aM15 vmN vmR vmBN vmHN vmL vmLo vmHi vmC vmZ vmB vmT vmM vmK vmF vmX vmH vmRow)) (va_Qv (fun (u : Int32 × (Nat → Int32) × (Nat → Int32) × (Nat → Int32)) => post u.1 u.2.1 u.2.2.1 u.2.2.2) (kB G (tyL cI cJ cZ) (va_A (wdM cI cJ cZ aM aM1 aM2 aM3 aM4 aM6 aM8 aM9 aM10 aM11 aM12 aM13 aM15 vmN vmR vmBN vmHN vmL vmLo vmHi vmC vmZ vmB vmT vmM vmK vmF vmX vmH vmRow) sz) (fun (u : Int32 × (Nat → Int32) × (Nat → Int32) × (Nat → Int32)) => wdM cI cJ cZ aM aM1 aM2 aM3 aM4 aM6 aM8 aM9 aM10 aM11 aM12 aM13 aM15 vmN vmR vmBN u.1 vmL vmLo vmHi vmC vmZ vmB vmT vmM u.2.1 u.2.2.1 u.2.2.2 vmH vmRow)) (va_A (wdM cI cJ cZ aM aM1 aM2 aM3 aM4 aM6 aM8 aM9 aM10 aM11 aM12 aM13 aM15 vmN vmR vmBN vmHN vmL vmLo vmHi vmC vmZ vmB vmT vmM vmK vmF vmX vmH vmRow) sz)) 0 0 (va_A (wdM cI cJ cZ aM aM1 aM2 aM3 aM4 aM6 aM8 aM9 aM10 aM11 aM12 aM13 aM15 vmN vmR vmBN vmHN vmL vmLo vmHi vmC vmZ vmB vmT vmM vmK vmF vmX vmH vmRow) sz) := by
  refine km_v (cc := cX5_begin) (maxL := 2) (by decide) rfl (Nat.le_of_ble_eq_true rfl) ?_
  intro p e s m below meth c A Q ls hx hb hml hts hown hnm hK hN hA hP hD hS hl hret
  replace hown : s.vm.findClass RX5 = some m.cls := hown
  replace hl : lv_has ls 2 [(0, .ref aM)] := hl
  have b37 : ∀ (n37 : Nat) (vmHN_b37 : Int32) (vmK_b37 : Nat → Int32) (vmF_b37 : Nat → Int32) (vmX_b37 : Nat → Int32) (x1_b37 : Int32) (H : Heap) (locs : List Loc) (ls : Array Slot), w_X5_begin_b37 N vmLo vmHi vmZ post n37 vmHN_b37 vmK_b37 vmF_b37 vmX_b37 x1_b37 → va_P G vwCl (wdM cI cJ cZ aM aM1 aM2 aM3 aM4 aM6 aM8 aM9 aM10 aM11 aM12 aM13 aM15 vmN vmR vmBN vmHN_b37 vmL vmLo vmHi vmC vmZ vmB vmT vmM vmK_b37 vmF_b37 vmX_b37 vmH vmRow) H → va_D A (wdM cI cJ cZ aM aM1 aM2 aM3 aM4 aM6 aM8 aM9 aM10 aM11 aM12 aM13 aM15 vmN vmR vmBN vmHN_b37 vmL vmLo vmHi vmC vmZ vmB vmT vmM vmK_b37 vmF_b37 vmX_b37 vmH vmRow) → va_S A s.heap H locs → lv_has ls 2 [(0, .ref aM), (1, .int x1_b37)] → W p l e rm_X5_begin s m ([.ref aM] : List Value).toArray below meth c H locs 0 0 Q (F0 m 37 ls []) := by
    intro n37
    induction n37 with
    | zero => intro vmHN_b37 vmK_b37 vmF_b37 vmX_b37 x1_b37 H locs ls hw; exact hw.elim
    | succ n37 ih37 =>
      intro vmHN_b37 vmK_b37 vmF_b37 vmX_b37 x1_b37 H locs ls hw hP hD hS hl
      replace hw : w_X5_begin_b37_B N vmLo vmHi vmZ post (w_X5_begin_b37 N vmLo vmHi vmZ post n37) vmHN_b37 vmK_b37 vmF_b37 vmX_b37 x1_b37 := hw
      unfold w_X5_begin_b37_B at hw
      refine lv_iload_n hx hb dX5_begin_37 rfl (lv_at hl 1 rfl) ?_
      refine lv_if_lt (tgt := 95) hx hb dX5_begin_38 (by decide) (fun c_4 => ?_) (fun c_4 => ?_)
      · replace hw := hw.1 c_4
        exact hret 95 (vmHN_b37, vmK_b37, vmF_b37, vmX_b37) _ _ _ dX5_begin_95 hw hP hD hS
      · replace hw := hw.2 c_4
        refine lv_aload_n hx hb dX5_begin_41 rfl (lv_at hl 0 rfl) ?_
        refine va_get (D := G) (ci := 5) (v := .ref aM10) (C := RX5) (T := TX5) (N := 17) hx hb hts (fun _ h => List.mem_cons_of_mem _ (List.mem_append_right _ h)) hown hK hP 0 rfl rfl 10 (by decide) (hts _ (List.mem_of_getElem? (i := 5) rfl)) (fun _ h9 => h9) rfl dX5_begin_42 ?_
        refine lv_iload_n hx hb dX5_begin_45 rfl (lv_at hl 1 rfl) ?_
        refine lv_iconst (v := (0 : Int32)) hx hb dX5_begin_46 (by decide) ?_
        have h_5 := hw.1
        replace hw := hw.2
        refine va_zast hx hb hK hP hD hS 8 2 rfl rfl h_5 dX5_begin_47 (fun H locs hP hD hS => ?_)
        replace hP : va_P G vwCl (wdM cI cJ cZ aM aM1 aM2 aM3 aM4 aM6 aM8 aM9 aM10 aM11 aM12 aM13 aM15 vmN vmR vmBN vmHN_b37 vmL vmLo vmHi vmC vmZ vmB vmT vmM (upd vmK_b37 x1_b37.toNatClampNeg (vp_nar .boolean (0 : Int32))) vmF_b37 vmX_b37 vmH vmRow) H := hP
        replace hD : va_D A (wdM cI cJ cZ aM aM1 aM2 aM3 aM4 aM6 aM8 aM9 aM10 aM11 aM12 aM13 aM15 vmN vmR vmBN vmHN_b37 vmL vmLo vmHi vmC vmZ vmB vmT vmM (upd vmK_b37 x1_b37.toNatClampNeg (vp_nar .boolean (0 : Int32))) vmF_b37 vmX_b37 vmH vmRow) := hD
        refine lv_aload_n hx hb dX5_begin_48 rfl (lv_at hl 0 rfl) ?_
        refine va_get (D := G) (ci := 5) (v := .ref aM4) (C := RX5) (T := TX5) (N := 17) hx hb hts (fun _ h => List.mem_cons_of_mem _ (List.mem_append_right _ h)) hown hK hP 0 rfl rfl 4 (by decide) (hts _ (List.mem_of_getElem? (i := 6) rfl)) (fun _ h9 => h9) rfl dX5_begin_49 ?_
        refine lv_iload_n hx hb dX5_begin_52 rfl (lv_at hl 1 rfl) ?_
        refine lv_iconst (v := (2 : Int32)) hx hb dX5_begin_53 (by decide) ?_
        refine lv_idiv hx hb dX5_begin_54 (by decide) ?_
        have h_6 := hw.1
        replace hw := hw.2
        refine va_zald hx hb hK hP 4 2 rfl rfl h_6 dX5_begin_55 ?_
        refine lv_if_eq (tgt := 62) hx hb dX5_begin_56 (by decide) (fun c_7 => ?_) (fun c_7 => ?_)
        · replace hw := hw.1 c_7
          refine lv_aload_n hx hb dX5_begin_62 rfl (lv_at hl 0 rfl) ?_
          refine va_get (D := G) (ci := 5) (v := .ref aM12) (C := RX5) (T := TX5) (N := 17) hx hb hts (fun _ h => List.mem_cons_of_mem _ (List.mem_append_right _ h)) hown hK hP 0 rfl rfl 12 (by decide) (hts _ (List.mem_of_getElem? (i := 7) rfl)) (fun _ h9 => h9) rfl dX5_begin_63 ?_
          refine lv_iload_n hx hb dX5_begin_66 rfl (lv_at hl 1 rfl) ?_
          refine lv_aload_n hx hb dX5_begin_67 rfl (lv_at hl 0 rfl) ?_
          refine va_get (D := G) (ci := 5) (v := .ref aM11) (C := RX5) (T := TX5) (N := 17) hx hb hts (fun _ h => List.mem_cons_of_mem _ (List.mem_append_right _ h)) hown hK hP 0 rfl rfl 11 (by decide) (hts _ (List.mem_of_getElem? (i := 3) rfl)) (fun _ h9 => h9) rfl dX5_begin_68 ?_
          refine lv_aload_n hx hb dX5_begin_71 rfl (lv_at hl 0 rfl) ?_
          refine lv_iload_n hx hb dX5_begin_72 rfl (lv_at hl 1 rfl) ?_
          refine kc_Vi (As := [.int x1_b37]) (rest := [.ref aM11, .int x1_b37, .ref aM12]) (wc := wdM cI cJ cZ aM aM1 aM2 aM3 aM4 aM6 aM8 aM9 aM10 aM11 aM12 aM13 aM15 vmN vmR vmBN vmHN_b37 vmL vmLo vmHi vmC vmZ vmB vmT vmM (upd vmK_b37 x1_b37.toNatClampNeg (vp_nar .boolean (0 : Int32))) vmF_b37 vmX_b37 vmH vmRow) (wr := []) ⟨hx, hb, hml, hown, hts⟩ (cwV 1 hts gX5_begin_X5_start rfl rfl rfl (by decide +kernel) ⟨Nat.le_of_ble_eq_true rfl, Nat.le_of_ble_eq_true rfl⟩) hK hN hA hP hD hS [0, 1, 2, 3, 4, 5, 6, 7, 8, 9, 10, 11, 12] [] rfl rfl (by decide) (by decide) (by decide) 0 rfl rfl (k_X5_start l G cI cJ cZ aM aM1 aM2 aM3 aM4 aM6 aM8 aM9 aM10 aM11 aM12 aM13 aM15 _ N vmN vmR vmBN vmHN_b37 vmL vmLo vmHi vmC vmZ vmB vmT vmM (upd vmK_b37 x1_b37.toNatClampNeg (vp_nar .boolean (0 : Int32))) vmF_b37 vmX_b37 vmH vmRow x1_b37 _ hw) rfl hl.1 rfl (Nat.le_of_ble_eq_true rfl) dX5_begin_73 ⟨Nat.le_of_ble_eq_true rfl, Nat.le_of_ble_eq_true rfl⟩ (fun r_8 u_ H locs hw hP hD hS => ?_)
          replace hP : va_P G vwCl (wdM cI cJ cZ aM aM1 aM2 aM3 aM4 aM6 aM8 aM9 aM10 aM11 aM12 aM13 aM15 vmN vmR vmBN vmHN_b37 vmL vmLo vmHi vmC vmZ vmB vmT vmM (upd vmK_b37 x1_b37.toNatClampNeg (vp_nar .boolean (0 : Int32))) vmF_b37 vmX_b37 vmH vmRow) H := hP.sub [0, 1, 2, 3, 4, 5, 6, 7, 8, 9, 10, 11, 12] rfl
          replace hD : va_D A (wdM cI cJ cZ aM aM1 aM2 aM3 aM4 aM6 aM8 aM9 aM10 aM11 aM12 aM13 aM15 vmN vmR vmBN vmHN_b37 vmL vmLo vmHi vmC vmZ vmB vmT vmM (upd vmK_b37 x1_b37.toNatClampNeg (vp_nar .boolean (0 : Int32))) vmF_b37 vmX_b37 vmH vmRow) := hD.sub [0, 1, 2, 3, 4, 5, 6, 7, 8, 9, 10, 11, 12] (by decide) rfl
          have h_9 := hw.1
          replace hw := hw.2
          refine va_iald hx hb hK hP 9 0 rfl rfl h_9 dX5_begin_76 ?_
          refine va_iast hx hb hK hP hD hS 10 0 rfl rfl h_5 dX5_begin_77 (fun H locs hP hD hS => ?_)
          replace hP : va_P G vwCl (wdM cI cJ cZ aM aM1 aM2 aM3 aM4 aM6 aM8 aM9 aM10 aM11 aM12 aM13 aM15 vmN vmR vmBN vmHN_b37 vmL vmLo vmHi vmC vmZ vmB vmT vmM (upd vmK_b37 x1_b37.toNatClampNeg (vp_nar .boolean (0 : Int32))) vmF_b37 (upd vmX_b37 x1_b37.toNatClampNeg (vmF_b37 r_8.toNatClampNeg)) vmH vmRow) H := hP
          replace hD : va_D A (wdM cI cJ cZ aM aM1 aM2 aM3 aM4 aM6 aM8 aM9 aM10 aM11 aM12 aM13 aM15 vmN vmR vmBN vmHN_b37 vmL vmLo vmHi vmC vmZ vmB vmT vmM (upd vmK_b37 x1_b37.toNatClampNeg (vp_nar .boolean (0 : Int32))) vmF_b37 (upd vmX_b37 x1_b37.toNatClampNeg (vmF_b37 r_8.toNatClampNeg)) vmH vmRow) := hD
          refine lv_aload_n hx hb dX5_begin_78 rfl (lv_at hl 0 rfl) ?_
          refine va_get (D := G) (ci := 5) (v := .ref aM11) (C := RX5) (T := TX5) (N := 17) hx hb hts (fun _ h => List.mem_cons_of_mem _ (List.mem_append_right _ h)) hown hK hP 0 rfl rfl 11 (by decide) (hts _ (List.mem_of_getElem? (i := 3) rfl)) (fun _ h9 => h9) rfl dX5_begin_79 ?_
          refine lv_aload_n hx hb dX5_begin_82 rfl (lv_at hl 0 rfl) ?_
          refine lv_iload_n hx hb dX5_begin_83 rfl (lv_at hl 1 rfl) ?_
          refine kc_Vi (As := [.int x1_b37]) (rest := [.ref aM11]) (wc := wdM cI cJ cZ aM aM1 aM2 aM3 aM4 aM6 aM8 aM9 aM10 aM11 aM12 aM13 aM15 vmN vmR vmBN vmHN_b37 vmL vmLo vmHi vmC vmZ vmB vmT vmM (upd vmK_b37 x1_b37.toNatClampNeg (vp_nar .boolean (0 : Int32))) vmF_b37 (upd vmX_b37 x1_b37.toNatClampNeg (vmF_b37 r_8.toNatClampNeg)) vmH vmRow) (wr := []) ⟨hx, hb, hml, hown, hts⟩ (cwV 1 hts gX5_begin_X5_start rfl rfl rfl (by decide +kernel) ⟨Nat.le_of_ble_eq_true rfl, Nat.le_of_ble_eq_true rfl⟩) hK hN hA hP hD hS [0, 1, 2, 3, 4, 5, 6, 7, 8, 9, 10, 11, 12] [] rfl rfl (by decide) (by decide) (by decide) 0 rfl rfl (k_X5_start l G cI cJ cZ aM aM1 aM2 aM3 aM4 aM6 aM8 aM9 aM10 aM11 aM12 aM13 aM15 _ N vmN vmR vmBN vmHN_b37 vmL vmLo vmHi vmC vmZ vmB vmT vmM (upd vmK_b37 x1_b37.toNatClampNeg (vp_nar .boolean (0 : Int32))) vmF_b37 (upd vmX_b37 x1_b37.toNatClampNeg (vmF_b37 r_8.toNatClampNeg)) vmH vmRow x1_b37 _ hw) rfl hl.1 rfl (Nat.le_of_ble_eq_true rfl) dX5_begin_84 ⟨Nat.le_of_ble_eq_true rfl, Nat.le_of_ble_eq_true rfl⟩ (fun r_10 u_ H locs hw hP hD hS => ?_)
          replace hP : va_P G vwCl (wdM cI cJ cZ aM aM1 aM2 aM3 aM4 aM6 aM8 aM9 aM10 aM11 aM12 aM13 aM15 vmN vmR vmBN vmHN_b37 vmL vmLo vmHi vmC vmZ vmB vmT vmM (upd vmK_b37 x1_b37.toNatClampNeg (vp_nar .boolean (0 : Int32))) vmF_b37 (upd vmX_b37 x1_b37.toNatClampNeg (vmF_b37 r_8.toNatClampNeg)) vmH vmRow) H := hP.sub [0, 1, 2, 3, 4, 5, 6, 7, 8, 9, 10, 11, 12] rfl
          replace hD : va_D A (wdM cI cJ cZ aM aM1 aM2 aM3 aM4 aM6 aM8 aM9 aM10 aM11 aM12 aM13 aM15 vmN vmR vmBN vmHN_b37 vmL vmLo vmHi vmC vmZ vmB vmT vmM (upd vmK_b37 x1_b37.toNatClampNeg (vp_nar .boolean (0 : Int32))) vmF_b37 (upd vmX_b37 x1_b37.toNatClampNeg (vmF_b37 r_8.toNatClampNeg)) vmH vmRow) := hD.sub [0, 1, 2, 3, 4, 5, 6, 7, 8, 9, 10, 11, 12] (by decide) rfl
          refine lv_iload_n hx hb dX5_begin_87 rfl (lv_at hl 1 rfl) ?_
          have h_11 := hw.1
          replace hw := hw.2
          refine va_iast hx hb hK hP hD hS 9 0 rfl rfl h_11 dX5_begin_88 (fun H locs hP hD hS => ?_)
          replace hP : va_P G vwCl (wdM cI cJ cZ aM aM1 aM2 aM3 aM4 aM6 aM8 aM9 aM10 aM11 aM12 aM13 aM15 vmN vmR vmBN vmHN_b37 vmL vmLo vmHi vmC vmZ vmB vmT vmM (upd vmK_b37 x1_b37.toNatClampNeg (vp_nar .boolean (0 : Int32))) (upd vmF_b37 r_10.toNatClampNeg x1_b37) (upd vmX_b37 x1_b37.toNatClampNeg (vmF_b37 r_8.toNatClampNeg)) vmH vmRow) H := hP
          replace hD : va_D A (wdM cI cJ cZ aM aM1 aM2 aM3 aM4 aM6 aM8 aM9 aM10 aM11 aM12 aM13 aM15 vmN vmR vmBN vmHN_b37 vmL vmLo vmHi vmC vmZ vmB vmT vmM (upd vmK_b37 x1_b37.toNatClampNeg (vp_nar .boolean (0 : Int32))) (upd vmF_b37 r_10.toNatClampNeg x1_b37) (upd vmX_b37 x1_b37.toNatClampNeg (vmF_b37 r_8.toNatClampNeg)) vmH vmRow) := hD
          obtain ⟨x1_12, e_13⟩ : ∃ y : Int32, y = x1_b37 + (-1 : Int32) := ⟨_, rfl⟩
          replace hw := hw x1_12 e_13
          refine lv_iinc (v := x1_12) (lv' := [(1, .int x1_12), (0, .ref aM)]) hx hb dX5_begin_89 hl (k := 1) rfl (by rw [e_13]; rfl) (by decide) rfl (fun ls hl => ?_)
          refine lv_goto (tgt := 37) hx hb dX5_begin_92 (by decide) ?_
          replace hl : lv_has ls 2 [(0, .ref aM), (1, .int x1_12)] := lv_sub hl [1, 0] rfl
          exact ih37 vmHN_b37 (upd vmK_b37 x1_b37.toNatClampNeg (vp_nar .boolean (0 : Int32))) (upd vmF_b37 r_10.toNatClampNeg x1_b37) (upd vmX_b37 x1_b37.toNatClampNeg (vmF_b37 r_8.toNatClampNeg)) x1_12 _ _ _ hw hP hD hS hl
        · replace hw := hw.2 c_7
          refine lv_goto (tgt := 89) hx hb dX5_begin_59 (by decide) ?_
          obtain ⟨x1_14, e_15⟩ : ∃ y : Int32, y = x1_b37 + (-1 : Int32) := ⟨_, rfl⟩
          replace hw := hw x1_14 e_15
          refine lv_iinc (v := x1_14) (lv' := [(1, .int x1_14), (0, .ref aM)]) hx hb dX5_begin_89 hl (k := 1) rfl (by rw [e_15]; rfl) (by decide) rfl (fun ls hl => ?_)
          refine lv_goto (tgt := 37) hx hb dX5_begin_92 (by decide) ?_
          replace hl : lv_has ls 2 [(0, .ref aM), (1, .int x1_14)] := lv_sub hl [1, 0] rfl
          exact ih37 vmHN_b37 (upd vmK_b37 x1_b37.toNatClampNeg (vp_nar .boolean (0 : Int32))) vmF_b37 vmX_b37 x1_14 _ _ _ hw hP hD hS hl
  have b7 : ∀ (n7 : Nat) (vmHN_b7 : Int32) (vmK_b7 : Nat → Int32) (vmF_b7 : Nat → Int32) (vmX_b7 : Nat → Int32) (x1_b7 : Int32) (H : Heap) (locs : List Loc) (ls : Array Slot), w_X5_begin_b7 N vmN vmR vmLo vmHi vmZ post n7 vmHN_b7 vmK_b7 vmF_b7 vmX_b7 x1_b7 → va_P G vwCl (wdM cI cJ cZ aM aM1 aM2 aM3 aM4 aM6 aM8 aM9 aM10 aM11 aM12 aM13 aM15 vmN vmR vmBN vmHN_b7 vmL vmLo vmHi vmC vmZ vmB vmT vmM vmK_b7 vmF_b7 vmX_b7 vmH vmRow) H → va_D A (wdM cI cJ cZ aM aM1 aM2 aM3 aM4 aM6 aM8 aM9 aM10 aM11 aM12 aM13 aM15 vmN vmR vmBN vmHN_b7 vmL vmLo vmHi vmC vmZ vmB vmT vmM vmK_b7 vmF_b7 vmX_b7 vmH vmRow) → va_S A s.heap H locs → lv_has ls 2 [(0, .ref aM), (1, .int x1_b7)] → W p l e rm_X5_begin s m ([.ref aM] : List Value).toArray below meth c H locs 0 0 Q (F0 m 7 ls []) := by
    intro n7
    induction n7 with
    | zero => intro vmHN_b7 vmK_b7 vmF_b7 vmX_b7 x1_b7 H locs ls hw; exact hw.elim
    | succ n7 ih7 =>
      intro vmHN_b7 vmK_b7 vmF_b7 vmX_b7 x1_b7 H locs ls hw hP hD hS hl
      replace hw : w_X5_begin_b7_B N vmN vmR vmLo vmHi vmZ post (w_X5_begin_b7 N vmN vmR vmLo vmHi vmZ post n7) vmHN_b7 vmK_b7 vmF_b7 vmX_b7 x1_b7 := hw
      unfold w_X5_begin_b7_B at hw
      refine lv_iload_n hx hb dX5_begin_7 rfl (lv_at hl 1 rfl) ?_
      refine lv_aload_n hx hb dX5_begin_8 rfl (lv_at hl 0 rfl) ?_
      refine va_get (D := G) (ci := 5) (v := .int vmN) (C := RX5) (T := TX5) (N := 17) hx hb hts (fun _ h => List.mem_cons_of_mem _ (List.mem_append_right _ h)) hown hK hP 0 rfl rfl 0 (by decide) (hts _ (List.mem_of_getElem? (i := 2) rfl)) (fun _ h9 => h9) rfl dX5_begin_9 ?_
      refine lv_icmp_ge (tgt := 28) hx hb dX5_begin_12 (by decide) (fun c_1 => ?_) (fun c_1 => ?_)
      · replace hw := hw.1 c_1
        refine lv_iconst (v := (2 : Int32)) hx hb dX5_begin_28 (by decide) ?_
        refine lv_aload_n hx hb dX5_begin_29 rfl (lv_at hl 0 rfl) ?_
        refine va_get (D := G) (ci := 5) (v := .int vmR) (C := RX5) (T := TX5) (N := 17) hx hb hts (fun _ h => List.mem_cons_of_mem _ (List.mem_append_right _ h)) hown hK hP 0 rfl rfl 5 (by decide) (hts _ (List.mem_of_getElem? (i := 4) rfl)) (fun _ h9 => h9) rfl dX5_begin_30 ?_
        refine lv_imul hx hb dX5_begin_33 ?_
        refine lv_iconst (v := (1 : Int32)) hx hb dX5_begin_34 (by decide) ?_
        refine lv_isub hx hb dX5_begin_35 ?_
        refine lv_topi (fun x1_2 e_3 => ?_)
        replace hw := hw x1_2 e_3
        refine lv_istore_n (lv' := [(1, .int x1_2), (0, .ref aM)]) hx hb dX5_begin_36 rfl hl (by decide) rfl (fun ls hl => ?_)
        replace hl : lv_has ls 2 [(0, .ref aM), (1, .int x1_2)] := lv_sub hl [1, 0] rfl
        exact b37 N vmHN_b7 vmK_b7 vmF_b7 vmX_b7 x1_2 _ _ _ hw hP hD hS hl
      · replace hw := hw.2 c_1
        refine lv_aload_n hx hb dX5_begin_15 rfl (lv_at hl 0 rfl) ?_
        refine va_get (D := G) (ci := 5) (v := .ref aM11) (C := RX5) (T := TX5) (N := 17) hx hb hts (fun _ h => List.mem_cons_of_mem _ (List.mem_append_right _ h)) hown hK hP 0 rfl rfl 11 (by decide) (hts _ (List.mem_of_getElem? (i := 3) rfl)) (fun _ h9 => h9) rfl dX5_begin_16 ?_
        refine lv_iload_n hx hb dX5_begin_19 rfl (lv_at hl 1 rfl) ?_
        refine lv_iconst (v := (-1 : Int32)) hx hb dX5_begin_20 (by decide) ?_
        have h_16 := hw.1
        replace hw := hw.2
        refine va_iast hx hb hK hP hD hS 9 0 rfl rfl h_16 dX5_begin_21 (fun H locs hP hD hS => ?_)
        replace hP : va_P G vwCl (wdM cI cJ cZ aM aM1 aM2 aM3 aM4 aM6 aM8 aM9 aM10 aM11 aM12 aM13 aM15 vmN vmR vmBN vmHN_b7 vmL vmLo vmHi vmC vmZ vmB vmT vmM vmK_b7 (upd vmF_b7 x1_b7.toNatClampNeg (-1 : Int32)) vmX_b7 vmH vmRow) H := hP
        replace hD : va_D A (wdM cI cJ cZ aM aM1 aM2 aM3 aM4 aM6 aM8 aM9 aM10 aM11 aM12 aM13 aM15 vmN vmR vmBN vmHN_b7 vmL vmLo vmHi vmC vmZ vmB vmT vmM vmK_b7 (upd vmF_b7 x1_b7.toNatClampNeg (-1 : Int32)) vmX_b7 vmH vmRow) := hD
        obtain ⟨x1_17, e_18⟩ : ∃ y : Int32, y = x1_b7 + (1 : Int32) := ⟨_, rfl⟩
        replace hw := hw x1_17 e_18
        refine lv_iinc (v := x1_17) (lv' := [(1, .int x1_17), (0, .ref aM)]) hx hb dX5_begin_22 hl (k := 1) rfl (by rw [e_18]; rfl) (by decide) rfl (fun ls hl => ?_)
        refine lv_goto (tgt := 7) hx hb dX5_begin_25 (by decide) ?_
        replace hl : lv_has ls 2 [(0, .ref aM), (1, .int x1_17)] := lv_sub hl [1, 0] rfl
        exact ih7 vmHN_b7 vmK_b7 (upd vmF_b7 x1_b7.toNatClampNeg (-1 : Int32)) vmX_b7 x1_17 _ _ _ hw hP hD hS hl
  unfold w_X5_begin at hw
  refine lv_aload_n hx hb dX5_begin_0 rfl (lv_at hl 0 rfl) ?_
  refine lv_iconst (v := (0 : Int32)) hx hb dX5_begin_1 (by decide) ?_
  refine va_put (D := G) (ci := 5) (v := .int (0 : Int32)) (ty := .int) (C := RX5) (T := TX5) (N := 17) hx hb hts (fun _ h => List.mem_cons_of_mem _ (List.mem_append_right _ h)) tyX5 tyX5_ok nmX5 hown hK hP hD hS 0 rfl rfl 14 (by decide) (hts _ (List.mem_of_getElem? (i := 1) rfl)) (fun _ h9 => h9) rfl (by decide +kernel) rfl rfl (Nat.le_of_ble_eq_true rfl) dX5_begin_2 (fun H locs hP hD hS => ?_)
  replace hP : va_P G vwCl (wdM cI cJ cZ aM aM1 aM2 aM3 aM4 aM6 aM8 aM9 aM10 aM11 aM12 aM13 aM15 vmN vmR vmBN (0 : Int32) vmL vmLo vmHi vmC vmZ vmB vmT vmM vmK vmF vmX vmH vmRow) H := hP
  replace hD : va_D A (wdM cI cJ cZ aM aM1 aM2 aM3 aM4 aM6 aM8 aM9 aM10 aM11 aM12 aM13 aM15 vmN vmR vmBN (0 : Int32) vmL vmLo vmHi vmC vmZ vmB vmT vmM vmK vmF vmX vmH vmRow) := hD
  refine lv_iconst (v := (0 : Int32)) hx hb dX5_begin_5 (by decide) ?_
  refine lv_istore_n (lv' := [(1, .int (0 : Int32)), (0, .ref aM)]) hx hb dX5_begin_6 rfl hl (by decide) rfl (fun ls hl => ?_)
  replace hl : lv_has ls 2 [(0, .ref aM), (1, .int (0 : Int32))] := lv_sub hl [1, 0] rfl
  exact b7 N (0 : Int32) vmK vmF vmX (0 : Int32) _ _ _ hw hP hD hS hl
