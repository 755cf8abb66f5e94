def w_X5_route_b147_B (N : Nat) (vmBN : Int32) (vmLo : Nat → Int32) (vmHi : Nat → Int32) (vmB : Nat → Int32) (post : Int64 → Int32 → Int32 → (Nat → Int64) → (Nat → Int32) → (Nat → Int32) → (Nat → Int32) → (Nat → Int32) → (Nat → Int32) → (Nat → Int32) → Prop) (k123 : Int32 → Int32 → (Nat → Int64) → (Nat → Int32) → (Nat → Int32) → (Nat → Int32) → (Nat → Int32) → (Nat → Int32) → (Nat → Int32) → Int32 → Int64 → Prop) (k147 : Int32 → Int32 → (Nat → Int64) → (Nat → Int32) → (Nat → Int32) → (Nat → Int32) → (Nat → Int32) → (Nat → Int32) → (Nat → Int32) → Int32 → Int64 → Int32 → Int32 → Prop) (vmHN_b147 : Int32) (vmL_b147 : Int32) (vmT_b147 : Nat → Int64) (vmM_b147 : Nat → Int32) (vmK_b147 : Nat → Int32) (vmF_b147 : Nat → Int32) (vmX_b147 : Nat → Int32) (vmH_b147 : Nat → Int32) (vmRow_b147 : Nat → Int32) (x3_b147 : Int32) (x4_b147 : Int64) (x6_b147 : Int32) (x7_b147 : Int32) : Prop :=
  ((x7_b147 < (0 : Int32) → w_X5_end N vmLo vmHi x6_b147 (fun r_32 => vp_in vmL_b147 4001 ∧ k123 vmHN_b147 (vmL_b147 + (1 : Int32)) vmT_b147 vmM_b147 vmK_b147 vmF_b147 vmX_b147 vmH_b147 (upd vmRow_b147 vmL_b147.toNatClampNeg r_32) x6_b147 x4_b147)) ∧ (¬ (x7_b147 < (0 : Int32)) → w_X5_start N vmLo vmHi x3_b147 (fun r_34 => w_X5_end N vmLo vmHi x3_b147 (fun r_35 => w_X5_end N vmLo vmHi x7_b147 (fun r_36 => w_X5_barAt N vmBN vmB r_34 r_35 r_36 (fun r_37 => (((0 : Int32) ≤ r_37 → vp_in x7_b147 4000 ∧ ∀ x7_40 : Int32, x7_40 = (vmX_b147 x7_b147.toNatClampNeg) → k147 vmHN_b147 vmL_b147 vmT_b147 vmM_b147 vmK_b147 vmF_b147 vmX_b147 vmH_b147 vmRow_b147 x3_b147 x4_b147 x6_b147 x7_40) ∧ (¬ ((0 : Int32) ≤ r_37) → w_X5_better N vmLo vmHi vmT_b147 vmM_b147 vmK_b147 x6_b147 x7_b147 (fun r_42 => vp_in x7_b147 4000 ∧ ∀ x7_44 : Int32, x7_44 = (vmX_b147 x7_b147.toNatClampNeg) → k147 vmHN_b147 vmL_b147 vmT_b147 vmM_b147 vmK_b147 vmF_b147 vmX_b147 vmH_b147 vmRow_b147 x3_b147 x4_b147 r_42 x7_44)))))))))
def w_X5_route_b147 (N : Nat) (vmBN : Int32) (vmLo : Nat → Int32) (vmHi : Nat → Int32) (vmB : Nat → Int32) (post : Int64 → Int32 → Int32 → (Nat → Int64) → (Nat → Int32) → (Nat → Int32) → (Nat → Int32) → (Nat → Int32) → (Nat → Int32) → (Nat → Int32) → Prop) (k123 : Int32 → Int32 → (Nat → Int64) → (Nat → Int32) → (Nat → Int32) → (Nat → Int32) → (Nat → Int32) → (Nat → Int32) → (Nat → Int32) → Int32 → Int64 → Prop) : Nat → Int32 → Int32 → (Nat → Int64) → (Nat → Int32) → (Nat → Int32) → (Nat → Int32) → (Nat → Int32) → (Nat → Int32) → (Nat → Int32) → Int32 → Int64 → Int32 → Int32 → Prop
  | 0, _, _, _, _, _, _, _, _, _, _, _, _, _ => False
  | n + 1, vmHN_b147, vmL_b147, vmT_b147, vmM_b147, vmK_b147, vmF_b147, vmX_b147, vmH_b147, vmRow_b147, x3_b147, x4_b147, x6_b147, x7_b147 => w_X5_route_b147_B N vmBN vmLo vmHi vmB post k123 (w_X5_route_b147 N vmBN vmLo vmHi vmB post k123 n) vmHN_b147 vmL_b147 vmT_b147 vmM_b147 vmK_b147 vmF_b147 vmX_b147 vmH_b147 vmRow_b147 x3_b147 x4_b147 x6_b147 x7_b147
def w_X5_route_b123_B (N : Nat) (vmBN : Int32) (vmLo : Nat → Int32) (vmHi : Nat → Int32) (vmB : Nat → Int32) (x2 : Int32) (post : Int64 → Int32 → Int32 → (Nat → Int64) → (Nat → Int32) → (Nat → Int32) → (Nat → Int32) → (Nat → Int32) → (Nat → Int32) → (Nat → Int32) → Prop) (k123 : Int32 → Int32 → (Nat → Int64) → (Nat → Int32) → (Nat → Int32) → (Nat → Int32) → (Nat → Int32) → (Nat → Int32) → (Nat → Int32) → Int32 → Int64 → Prop) (vmHN_b123 : Int32) (vmL_b123 : Int32) (vmT_b123 : Nat → Int64) (vmM_b123 : Nat → Int32) (vmK_b123 : Nat → Int32) (vmF_b123 : Nat → Int32) (vmX_b123 : Nat → Int32) (vmH_b123 : Nat → Int32) (vmRow_b123 : Nat → Int32) (x3_b123 : Int32) (x4_b123 : Int64) : Prop :=
  w_X5_end N vmLo vmHi x3_b123 (fun r_25 => ((r_25 = x2 → post x4_b123 vmHN_b123 vmL_b123 vmT_b123 vmM_b123 vmK_b123 vmF_b123 vmX_b123 vmH_b123 vmRow_b123) ∧ (¬ (r_25 = x2) → w_X5_end N vmLo vmHi x3_b123 (fun r_27 => vp_in r_27 300 ∧ ∀ x7_29 : Int32, x7_29 = (vmF_b123 r_27.toNatClampNeg) → w_X5_route_b147 N vmBN vmLo vmHi vmB post k123 N vmHN_b123 vmL_b123 vmT_b123 vmM_b123 vmK_b123 vmF_b123 vmX_b123 vmH_b123 vmRow_b123 x3_b123 x4_b123 (-1 : Int32) x7_29))))
def w_X5_route_b123 (N : Nat) (vmBN : Int32) (vmLo : Nat → Int32) (vmHi : Nat → Int32) (vmB : Nat → Int32) (x2 : Int32) (post : Int64 → Int32 → Int32 → (Nat → Int64) → (Nat → Int32) → (Nat → Int32) → (Nat → Int32) → (Nat → Int32) → (Nat → Int32) → (Nat → Int32) → Prop) : Nat → Int32 → Int32 → (Nat → Int64) → (Nat → Int32) → (Nat → Int32) → (Nat → Int32) → (Nat → Int32) → (Nat → Int32) → (Nat → Int32) → Int32 → Int64 → Prop
  | 0, _, _, _, _, _, _, _, _, _, _, _ => False
  | n + 1, vmHN_b123, vmL_b123, vmT_b123, vmM_b123, vmK_b123, vmF_b123, vmX_b123, vmH_b123, vmRow_b123, x3_b123, x4_b123 => w_X5_route_b123_B N vmBN vmLo vmHi vmB x2 post (w_X5_route_b123 N vmBN vmLo vmHi vmB x2 post n) vmHN_b123 vmL_b123 vmT_b123 vmM_b123 vmK_b123 vmF_b123 vmX_b123 vmH_b123 vmRow_b123 x3_b123 x4_b123
def w_X5_route_b59_B (N : Nat) (vmBN : Int32) (vmLo : Nat → Int32) (vmHi : Nat → Int32) (vmB : Nat → Int32) (x1 : Int32) (x2 : Int32) (post : Int64 → Int32 → Int32 → (Nat → Int64) → (Nat → Int32) → (Nat → Int32) → (Nat → Int32) → (Nat → Int32) → (Nat → Int32) → (Nat → Int32) → Prop) (k59 : Int32 → Int32 → (Nat → Int64) → (Nat → Int32) → (Nat → Int32) → (Nat → Int32) → (Nat → Int32) → (Nat → Int32) → (Nat → Int32) → Int32 → Int32 → Prop) (vmHN_b59 : Int32) (vmL_b59 : Int32) (vmT_b59 : Nat → Int64) (vmM_b59 : Nat → Int32) (vmK_b59 : Nat → Int32) (vmF_b59 : Nat → Int32) (vmX_b59 : Nat → Int32) (vmH_b59 : Nat → Int32) (vmRow_b59 : Nat → Int32) (x3_b59 : Int32) (x4_b59 : Int32) : Prop :=
  ((x4_b59 < (0 : Int32) → (((0 : Int32) ≤ x3_b59 → vp_in x3_b59 4000 ∧ ∀ x4_20 : Int64, x4_20 = (vmT_b59 x3_b59.toNatClampNeg) → vp_in (0 : Int32) 4001 ∧ w_X5_end N vmLo vmHi x3_b59 (fun r_23 => vp_in (1 : Int32) 4001 ∧ w_X5_route_b123 N vmBN vmLo vmHi vmB x2 post N vmHN_b59 (2 : Int32) vmT_b59 vmM_b59 vmK_b59 vmF_b59 vmX_b59 vmH_b59 (upd (upd vmRow_b59 (0 : Int32).toNatClampNeg x1) (1 : Int32).toNatClampNeg r_23) x3_b59 x4_20)) ∧ (¬ ((0 : Int32) ≤ x3_b59) → post (-3 : Int64) vmHN_b59 vmL_b59 vmT_b59 vmM_b59 vmK_b59 vmF_b59 vmX_b59 vmH_b59 vmRow_b59))) ∧ (¬ (x4_b59 < (0 : Int32)) → w_X5_better N vmLo vmHi vmT_b59 vmM_b59 vmK_b59 x3_b59 x4_b59 (fun r_46 => vp_in x4_b59 4000 ∧ ∀ x4_48 : Int32, x4_48 = (vmX_b59 x4_b59.toNatClampNeg) → k59 vmHN_b59 vmL_b59 vmT_b59 vmM_b59 vmK_b59 vmF_b59 vmX_b59 vmH_b59 vmRow_b59 r_46 x4_48)))
def w_X5_route_b59 (N : Nat) (vmBN : Int32) (vmLo : Nat → Int32) (vmHi : Nat → Int32) (vmB : Nat → Int32) (x1 : Int32) (x2 : Int32) (post : Int64 → Int32 → Int32 → (Nat → Int64) → (Nat → Int32) → (Nat → Int32) → (Nat → Int32) → (Nat → Int32) → (Nat → Int32) → (Nat → Int32) → Prop) : Nat → Int32 → Int32 → (Nat → Int64) → (Nat → Int32) → (Nat → Int32) → (Nat → Int32) → (Nat → Int32) → (Nat → Int32) → (Nat → Int32) → Int32 → Int32 → Prop
  | 0, _, _, _, _, _, _, _, _, _, _, _ => False
  | n + 1, vmHN_b59, vmL_b59, vmT_b59, vmM_b59, vmK_b59, vmF_b59, vmX_b59, vmH_b59, vmRow_b59, x3_b59, x4_b59 => w_X5_route_b59_B N vmBN vmLo vmHi vmB x1 x2 post (w_X5_route_b59 N vmBN vmLo vmHi vmB x1 x2 post n) vmHN_b59 vmL_b59 vmT_b59 vmM_b59 vmK_b59 vmF_b59 vmX_b59 vmH_b59 vmRow_b59 x3_b59 x4_b59
def w_X5_route (N : Nat) (vmN : Int32) (vmR : Int32) (vmBN : Int32) (vmHN : Int32) (vmL : Int32) (vmLo : Nat → Int32) (vmHi : Nat → Int32) (vmC : Nat → Int32) (vmZ : Nat → Int32) (vmB : Nat → Int32) (vmT : Nat → Int64) (vmM : Nat → Int32) (vmK : Nat → Int32) (vmF : Nat → Int32) (vmX : Nat → Int32) (vmH : Nat → Int32) (vmRow : Nat → Int32) (x1 : Int32) (x2 : Int32) (post : Int64 → Int32 → Int32 → (Nat → Int64) → (Nat → Int32) → (Nat → Int32) → (Nat → Int32) → (Nat → Int32) → (Nat → Int32) → (Nat → Int32) → Prop) : Prop :=
  w_X5_isNode N vmN x1 (fun r_1 => ((r_1 = (0 : Int32) → post (-14 : Int64) vmHN (0 : Int32) vmT vmM vmK vmF vmX vmH vmRow) ∧ (¬ (r_1 = (0 : Int32)) → w_X5_isNode N vmN x2 (fun r_3 => ((¬ r_3 = (0 : Int32) → ((¬ x1 = x2 → w_X5_spread N vmN vmR vmBN vmHN vmLo vmHi vmC vmZ vmB vmT vmM vmK vmF vmX vmH x2 (fun vmHN_7 vmT_8 vmM_9 vmK_10 vmF_11 vmX_12 vmH_13 => vp_in x1 300 ∧ ∀ x4_15 : Int32, x4_15 = (vmF_11 x1.toNatClampNeg) → w_X5_route_b59 N vmBN vmLo vmHi vmB x1 x2 post N vmHN_7 (0 : Int32) vmT_8 vmM_9 vmK_10 vmF_11 vmX_12 vmH_13 vmRow (-1 : Int32) x4_15)) ∧ (x1 = x2 → vp_in (0 : Int32) 4001 ∧ post (0 : Int64) vmHN (1 : Int32) vmT vmM vmK vmF vmX vmH (upd vmRow (0 : Int32).toNatClampNeg x1)))) ∧ (r_3 = (0 : Int32) → post (-14 : Int64) vmHN (0 : Int32) vmT vmM vmK vmF vmX vmH vmRow))))))
abbrev rm_X5_route : Room := { frames := 3, cells := 0, slots := 0, locals := 71 }
set_option maxHeartbeats 4000000 in
set_option maxRecDepth 100000 in
theorem k_X5_route (l : Launch) (G : va_G) (cI cJ cZ : ClassId) (aM aM1 aM2 aM3 aM4 aM6 aM8 aM9 aM10 aM11 aM12 aM13 aM15 : Nat) (sz N : Nat) (vmN : Int32) (vmR : Int32) (vmBN : Int32) (vmHN : Int32) (vmL : Int32) (vmLo : Nat → Int32) (vmHi : Nat → Int32) (vmC : Nat → Int32) (vmZ : Nat → Int32) (vmB : Nat → Int32) (vmT : Nat → Int64) (vmM : Nat → Int32) (vmK : Nat → Int32) (vmF : Nat → Int32) (vmX : Nat → Int32) (vmH : Nat → Int32) (vmRow : Nat → Int32) (x1 : Int32) (x2 : Int32) (post : Int64 → Int32 → Int32 → (Nat → Int64) → (Nat → Int32) → (Nat → Int32) → (Nat → Int32) → (Nat → Int32) → (Nat → Int32) → (Nat → Int32) → Prop) (hw : w_X5_route N vmN vmR vmBN vmHN vmL vmLo vmHi vmC vmZ vmB vmT vmM vmK vmF vmX vmH vmRow x1 x2 post) : Met l yX5_route wsX5_route rm_X5_route (kPc G (tyL cI cJ cZ) [.ref aM, .int x1, .int x2] sz (wdM cI cJ cZ aM aM1 aM2 aM3 aM4 aM6 aM8 aM9 aM10 aM11 aM12 aM13 aM15 vmN vmR vmBN vmHN vmL vmLo vmHi vmC vmZ vmB vmT vmM vmK vmF vmX vmH vmRow)) (va_Ql (fun (r : Int64) (u : Int32 × Int32 × (Nat → Int64) × (Nat → Int32) × (Nat → Int32) × (Nat → Int32) × (Nat → Int32) × (Nat → Int32) × (Nat → Int32)) => post r u.1 u.2.1 u.2.2.1 u.2.2.2.1 u.2.2.2.2.1 u.2.2.2.2.2.1 u.2.2.2.2.2.2.1 u.2.2.2.2.2.2.2.1 u.2.2.2.2.2.2.2.2) (kB G (tyL cI cJ cZ) (va_A (wdM cI cJ cZ aM aM1 aM2 aM3 aM4 aM6 aM8 aM9 aM10 aM11 aM12 aM13 aM15 vmN vmR vmBN vmHN vmL vmLo vmHi vmC vmZ vmB vmT vmM vmK vmF vmX vmH vmRow) sz) (fun (u : Int32 × Int32 × (Nat → Int64) × (Nat → Int32) × (Nat → Int32) × (Nat → Int32) × (Nat → Int32) × (Nat → Int32) × (Nat → Int32)) => wdM cI cJ cZ aM aM1 aM2 aM3 aM4 aM6 aM8 aM9 aM10 aM11 aM12 aM13 aM15 vmN vmR vmBN u.1 u.2.1 vmLo vmHi vmC vmZ vmB u.2.2.1 u.2.2.2.1 u.2.2.2.2.1 u.2.2.2.2.2.1 u.2.2.2.2.2.2.1 u.2.2.2.2.2.2.2.1 u.2.2.2.2.2.2.2.2)) (va_A (wdM cI cJ cZ aM aM1 aM2 aM3 aM4 aM6 aM8 aM9 aM10 aM11 aM12 aM13 aM15 vmN vmR vmBN vmHN vmL vmLo vmHi vmC vmZ vmB vmT vmM vmK vmF vmX vmH vmRow) sz)) 0 0 (va_A (wdM cI cJ cZ aM aM1 aM2 aM3 aM4 aM6 aM8 aM9 aM10 aM11 aM12 aM13 aM15 vmN vmR vmBN vmHN vmL vmLo vmHi vmC vmZ vmB vmT vmM vmK vmF vmX vmH vmRow) sz) := by
  refine km_l (cc := cX5_route) (maxL := 8) (by decide) rfl (Nat.le_of_ble_eq_true rfl) ?_
  intro p e s m below meth c A Q ls hx hb hml hts hown hnm hK hN hA hP hD hS hl hret
  replace hown : s.vm.findClass RX5 = some m.cls := hown
  replace hl : lv_has ls 8 [(0, .ref aM), (1, .int x1), (2, .int x2)] := hl
  have b123 : ∀ (n123 : Nat) (vmHN_b123 : Int32) (vmL_b123 : Int32) (vmT_b123 : Nat → Int64) (vmM_b123 : Nat → Int32) (vmK_b123 : Nat → Int32) (vmF_b123 : Nat → Int32) (vmX_b123 : Nat → Int32) (vmH_b123 : Nat → Int32) (vmRow_b123 : Nat → Int32) (x3_b123 : Int32) (x4_b123 : Int64) (H : Heap) (locs : List Loc) (ls : Array Slot), w_X5_route_b123 N vmBN vmLo vmHi vmB x2 post n123 vmHN_b123 vmL_b123 vmT_b123 vmM_b123 vmK_b123 vmF_b123 vmX_b123 vmH_b123 vmRow_b123 x3_b123 x4_b123 → va_P G vwCl (wdM cI cJ cZ aM aM1 aM2 aM3 aM4 aM6 aM8 aM9 aM10 aM11 aM12 aM13 aM15 vmN vmR vmBN vmHN_b123 vmL_b123 vmLo vmHi vmC vmZ vmB vmT_b123 vmM_b123 vmK_b123 vmF_b123 vmX_b123 vmH_b123 vmRow_b123) H → va_D A (wdM cI cJ cZ aM aM1 aM2 aM3 aM4 aM6 aM8 aM9 aM10 aM11 aM12 aM13 aM15 vmN vmR vmBN vmHN_b123 vmL_b123 vmLo vmHi vmC vmZ vmB vmT_b123 vmM_b123 vmK_b123 vmF_b123 vmX_b123 vmH_b123 vmRow_b123) → va_S A s.heap H locs → lv_has ls 8 [(0, .ref aM), (2, .int x2), (3, .int x3_b123), (4, .long x4_b123)] → W p l e rm_X5_route s m ([.ref aM, .int x1, .int x2] : List Value).toArray below meth c H locs 0 0 Q (F0 m 123 ls []) := by
    intro n123
    induction n123 with
    | zero => intro vmHN_b123 vmL_b123 vmT_b123 vmM_b123 vmK_b123 vmF_b123 vmX_b123 vmH_b123 vmRow_b123 x3_b123 x4_b123 H locs ls hw; exact hw.elim
    | succ n123 ih123 =>
      intro vmHN_b123 vmL_b123 vmT_b123 vmM_b123 vmK_b123 vmF_b123 vmX_b123 vmH_b123 vmRow_b123 x3_b123 x4_b123 H locs ls hw hP hD hS hl
      replace hw : w_X5_route_b123_B N vmBN vmLo vmHi vmB x2 post (w_X5_route_b123 N vmBN vmLo vmHi vmB x2 post n123) vmHN_b123 vmL_b123 vmT_b123 vmM_b123 vmK_b123 vmF_b123 vmX_b123 vmH_b123 vmRow_b123 x3_b123 x4_b123 := hw
      unfold w_X5_route_b123_B at hw
      have b147 : ∀ (n147 : Nat) (vmHN_b147 : Int32) (vmL_b147 : Int32) (vmT_b147 : Nat → Int64) (vmM_b147 : Nat → Int32) (vmK_b147 : Nat → Int32) (vmF_b147 : Nat → Int32) (vmX_b147 : Nat → Int32) (vmH_b147 : Nat → Int32) (vmRow_b147 : Nat → Int32) (x3_b147 : Int32) (x4_b147 : Int64) (x6_b147 : Int32) (x7_b147 : Int32) (H : Heap) (locs : List Loc) (ls : Array Slot), w_X5_route_b147 N vmBN vmLo vmHi vmB post (w_X5_route_b123 N vmBN vmLo vmHi vmB x2 post n123) n147 vmHN_b147 vmL_b147 vmT_b147 vmM_b147 vmK_b147 vmF_b147 vmX_b147 vmH_b147 vmRow_b147 x3_b147 x4_b147 x6_b147 x7_b147 → va_P G vwCl (wdM cI cJ cZ aM aM1 aM2 aM3 aM4 aM6 aM8 aM9 aM10 aM11 aM12 aM13 aM15 vmN vmR vmBN vmHN_b147 vmL_b147 vmLo vmHi vmC vmZ vmB vmT_b147 vmM_b147 vmK_b147 vmF_b147 vmX_b147 vmH_b147 vmRow_b147) H → va_D A (wdM cI cJ cZ aM aM1 aM2 aM3 aM4 aM6 aM8 aM9 aM10 aM11 aM12 aM13 aM15 vmN vmR vmBN vmHN_b147 vmL_b147 vmLo vmHi vmC vmZ vmB vmT_b147 vmM_b147 vmK_b147 vmF_b147 vmX_b147 vmH_b147 vmRow_b147) → va_S A s.heap H locs → lv_has ls 8 [(0, .ref aM), (2, .int x2), (3, .int x3_b147), (4, .long x4_b147), (6, .int x6_b147), (7, .int x7_b147)] → W p l e rm_X5_route s m ([.ref aM, .int x1, .int x2] : List Value).toArray below meth c H locs 0 0 Q (F0 m 147 ls []) := by
        intro n147
        induction n147 with
        | zero => intro vmHN_b147 vmL_b147 vmT_b147 vmM_b147 vmK_b147 vmF_b147 vmX_b147 vmH_b147 vmRow_b147 x3_b147 x4_b147 x6_b147 x7_b147 H locs ls hw; exact hw.elim
        | succ n147 ih147 =>
          intro vmHN_b147 vmL_b147 vmT_b147 vmM_b147 vmK_b147 vmF_b147 vmX_b147 vmH_b147 vmRow_b147 x3_b147 x4_b147 x6_b147 x7_b147 H locs ls hw hP hD hS hl
          replace hw : w_X5_route_b147_B N vmBN vmLo vmHi vmB post (w_X5_route_b123 N vmBN vmLo vmHi vmB x2 post n123) (w_X5_route_b147 N vmBN vmLo vmHi vmB post (w_X5_route_b123 N vmBN vmLo vmHi vmB x2 post n123) n147) vmHN_b147 vmL_b147 vmT_b147 vmM_b147 vmK_b147 vmF_b147 vmX_b147 vmH_b147 vmRow_b147 x3_b147 x4_b147 x6_b147 x7_b147 := hw
          unfold w_X5_route_b147_B at hw
          refine lv_iload hx hb dX5_route_147 (lv_at hl 5 rfl) ?_
          refine lv_if_lt (tgt := 197) hx hb dX5_route_149 (by decide) (fun c_31 => ?_) (fun c_31 => ?_)
          · replace hw := hw.1 c_31
            refine lv_iload hx hb dX5_route_197 (lv_at hl 4 rfl) ?_
            refine lv_istore_n (lv' := [(3, .int x6_b147), (0, .ref aM), (2, .int x2), (4, .long x4_b147), (6, .int x6_b147), (7, .int x7_b147)]) hx hb dX5_route_199 rfl hl (by decide) rfl (fun ls hl => ?_)
            refine lv_aload_n hx hb dX5_route_200 rfl (lv_at hl 1 rfl) ?_
            refine va_get (D := G) (ci := 5) (v := .ref aM15) (C := RX5) (T := TX5) (N := 17) hx hb hts (fun _ h => List.mem_cons_of_mem _ (List.mem_append_right _ h)) hown hK hP 0 rfl rfl 15 (by decide) (hts _ (List.mem_of_getElem? (i := 3) rfl)) (fun _ h9 => h9) rfl dX5_route_201 ?_
            refine lv_aload_n hx hb dX5_route_204 rfl (lv_at hl 1 rfl) ?_
            refine va_get (D := G) (ci := 5) (v := .int vmL_b147) (C := RX5) (T := TX5) (N := 17) hx hb hts (fun _ h => List.mem_cons_of_mem _ (List.mem_append_right _ h)) hown hK hP 0 rfl rfl 16 (by decide) (hts _ (List.mem_of_getElem? (i := 1) rfl)) (fun _ h9 => h9) rfl dX5_route_205 ?_
            refine lv_aload_n hx hb dX5_route_208 rfl (lv_at hl 1 rfl) ?_
            refine lv_iload_n hx hb dX5_route_209 rfl (lv_at hl 0 rfl) ?_
            refine kc_Vi (As := [.int x6_b147]) (rest := [.int vmL_b147, .ref aM15]) (wc := wdM cI cJ cZ aM aM1 aM2 aM3 aM4 aM6 aM8 aM9 aM10 aM11 aM12 aM13 aM15 vmN vmR vmBN vmHN_b147 vmL_b147 vmLo vmHi vmC vmZ vmB vmT_b147 vmM_b147 vmK_b147 vmF_b147 vmX_b147 vmH_b147 vmRow_b147) (wr := []) ⟨hx, hb, hml, hown, hts⟩ (cwV 1 hts gX5_route_X5_end rfl rfl rfl (by decide +kernel) ⟨Nat.le_of_ble_eq_true rfl, Nat.le_of_ble_eq_true rfl⟩) hK hN hA hP hD hS [0, 1, 2, 3, 4, 5, 6, 7, 8, 9, 10, 11, 12] [] rfl rfl (by decide) (by decide) (by decide) 0 rfl rfl (k_X5_end l G cI cJ cZ aM aM1 aM2 aM3 aM4 aM6 aM8 aM9 aM10 aM11 aM12 aM13 aM15 _ N vmN vmR vmBN vmHN_b147 vmL_b147 vmLo vmHi vmC vmZ vmB vmT_b147 vmM_b147 vmK_b147 vmF_b147 vmX_b147 vmH_b147 vmRow_b147 x6_b147 _ hw) rfl hl.1 rfl (Nat.le_of_ble_eq_true rfl) dX5_route_210 ⟨Nat.le_of_ble_eq_true rfl, Nat.le_of_ble_eq_true rfl⟩ (fun r_32 u_ H locs hw hP hD hS => ?_)
            replace hP : va_P G vwCl (wdM cI cJ cZ aM aM1 aM2 aM3 aM4 aM6 aM8 aM9 aM10 aM11 aM12 aM13 aM15 vmN vmR vmBN vmHN_b147 vmL_b147 vmLo vmHi vmC vmZ vmB vmT_b147 vmM_b147 vmK_b147 vmF_b147 vmX_b147 vmH_b147 vmRow_b147) H := hP.sub [0, 1, 2, 3, 4, 5, 6, 7, 8, 9, 10, 11, 12] rfl
            replace hD : va_D A (wdM cI cJ cZ aM aM1 aM2 aM3 aM4 aM6 aM8 aM9 aM10 aM11 aM12 aM13 aM15 vmN vmR vmBN vmHN_b147 vmL_b147 vmLo vmHi vmC vmZ vmB vmT_b147 vmM_b147 vmK_b147 vmF_b147 vmX_b147 vmH_b147 vmRow_b147) := hD.sub [0, 1, 2, 3, 4, 5, 6, 7, 8, 9, 10, 11, 12] (by decide) rfl
            have h_33 := hw.1
            replace hw := hw.2
            refine va_iast hx hb hK hP hD hS 12 0 rfl rfl h_33 dX5_route_213 (fun H locs hP hD hS => ?_)
            replace hP : va_P G vwCl (wdM cI cJ cZ aM aM1 aM2 aM3 aM4 aM6 aM8 aM9 aM10 aM11 aM12 aM13 aM15 vmN vmR vmBN vmHN_b147 vmL_b147 vmLo vmHi vmC vmZ vmB vmT_b147 vmM_b147 vmK_b147 vmF_b147 vmX_b147 vmH_b147 (upd vmRow_b147 vmL_b147.toNatClampNeg r_32)) H := hP
            replace hD : va_D A (wdM cI cJ cZ aM aM1 aM2 aM3 aM4 aM6 aM8 aM9 aM10 aM11 aM12 aM13 aM15 vmN vmR vmBN vmHN_b147 vmL_b147 vmLo vmHi vmC vmZ vmB vmT_b147 vmM_b147 vmK_b147 vmF_b147 vmX_b147 vmH_b147 (upd vmRow_b147 vmL_b147.toNatClampNeg r_32)) := hD
            refine lv_aload_n hx hb dX5_route_214 rfl (lv_at hl 1 rfl) ?_
            refine lv_dup hx hb dX5_route_215 rfl ?_
            refine va_get (D := G) (ci := 5) (v := .int vmL_b147) (C := RX5) (T := TX5) (N := 17) hx hb hts (fun _ h => List.mem_cons_of_mem _ (List.mem_append_right _ h)) hown hK hP 0 rfl rfl 16 (by decide) (hts _ (List.mem_of_getElem? (i := 1) rfl)) (fun _ h9 => h9) rfl dX5_route_216 ?_
            refine lv_iconst (v := (1 : Int32)) hx hb dX5_route_219 (by decide) ?_
            refine lv_iadd hx hb dX5_route_220 ?_
            refine va_put (D := G) (ci := 5) (v := .int (vmL_b147 + (1 : Int32))) (ty := .int) (C := RX5) (T := TX5) (N := 17) hx hb hts (fun _ h => List.mem_cons_of_mem _ (List.mem_append_right _ h)) tyX5 tyX5_ok nmX5 hown hK hP hD hS 0 rfl rfl 16 (by decide) (hts _ (List.mem_of_getElem? (i := 1) rfl)) (fun _ h9 => h9) rfl (by decide +kernel) rfl rfl (Nat.le_of_ble_eq_true rfl) dX5_route_221 (fun H locs hP hD hS => ?_)
            replace hP : va_P G vwCl (wdM cI cJ cZ aM aM1 aM2 aM3 aM4 aM6 aM8 aM9 aM10 aM11 aM12 aM13 aM15 vmN vmR vmBN vmHN_b147 (vmL_b147 + (1 : Int32)) vmLo vmHi vmC vmZ vmB vmT_b147 vmM_b147 vmK_b147 vmF_b147 vmX_b147 vmH_b147 (upd vmRow_b147 vmL_b147.toNatClampNeg r_32)) H := hP
            replace hD : va_D A (wdM cI cJ cZ aM aM1 aM2 aM3 aM4 aM6 aM8 aM9 aM10 aM11 aM12 aM13 aM15 vmN vmR vmBN vmHN_b147 (vmL_b147 + (1 : Int32)) vmLo vmHi vmC vmZ vmB vmT_b147 vmM_b147 vmK_b147 vmF_b147 vmX_b147 vmH_b147 (upd vmRow_b147 vmL_b147.toNatClampNeg r_32)) := hD
            refine lv_goto (tgt := 123) hx hb dX5_route_224 (by decide) ?_
            replace hl : lv_has ls 8 [(0, .ref aM), (2, .int x2), (3, .int x6_b147), (4, .long x4_b147)] := lv_sub hl [1, 2, 0, 3] rfl
            exact ih123 vmHN_b147 (vmL_b147 + (1 : Int32)) vmT_b147 vmM_b147 vmK_b147 vmF_b147 vmX_b147 vmH_b147 (upd vmRow_b147 vmL_b147.toNatClampNeg r_32) x6_b147 x4_b147 _ _ _ hw hP hD hS hl
          · replace hw := hw.2 c_31
            refine lv_aload_n hx hb dX5_route_152 rfl (lv_at hl 0 rfl) ?_
            refine lv_aload_n hx hb dX5_route_153 rfl (lv_at hl 0 rfl) ?_
            refine lv_iload_n hx hb dX5_route_154 rfl (lv_at hl 2 rfl) ?_
            refine kc_Vi (As := [.int x3_b147]) (rest := [.ref aM]) (wc := wdM cI cJ cZ aM aM1 aM2 aM3 aM4 aM6 aM8 aM9 aM10 aM11 aM12 aM13 aM15 vmN vmR vmBN vmHN_b147 vmL_b147 vmLo vmHi vmC vmZ vmB vmT_b147 vmM_b147 vmK_b147 vmF_b147 vmX_b147 vmH_b147 vmRow_b147) (wr := []) ⟨hx, hb, hml, hown, hts⟩ (cwV 1 hts gX5_route_X5_start rfl rfl rfl (by decide +kernel) ⟨Nat.le_of_ble_eq_true rfl, Nat.le_of_ble_eq_true rfl⟩) hK hN hA hP hD hS [0, 1, 2, 3, 4, 5, 6, 7, 8, 9, 10, 11, 12] [] rfl rfl (by decide) (by decide) (by decide) 0 rfl rfl (k_X5_start l G cI cJ cZ aM aM1 aM2 aM3 aM4 aM6 aM8 aM9 aM10 aM11 aM12 aM13 aM15 _ N vmN vmR vmBN vmHN_b147 vmL_b147 vmLo vmHi vmC vmZ vmB vmT_b147 vmM_b147 vmK_b147 vmF_b147 vmX_b147 vmH_b147 vmRow_b147 x3_b147 _ hw) rfl hl.1 rfl (Nat.le_of_ble_eq_true rfl) dX5_route_155 ⟨Nat.le_of_ble_eq_true rfl, Nat.le_of_ble_eq_true rfl⟩ (fun r_34 u_ H locs hw hP hD hS => ?_)
            replace hP : va_P G vwCl (wdM cI cJ cZ aM aM1 aM2 aM3 aM4 aM6 aM8 aM9 aM10 aM11 aM12 aM13 aM15 vmN vmR vmBN vmHN_b147 vmL_b147 vmLo vmHi vmC vmZ vmB vmT_b147 vmM_b147 vmK_b147 vmF_b147 vmX_b147 vmH_b147 vmRow_b147) H := hP.sub [0, 1, 2, 3, 4, 5, 6, 7, 8, 9, 10, 11, 12] rfl
            replace hD : va_D A (wdM cI cJ cZ aM aM1 aM2 aM3 aM4 aM6 aM8 aM9 aM10 aM11 aM12 aM13 aM15 vmN vmR vmBN vmHN_b147 vmL_b147 vmLo vmHi vmC vmZ vmB vmT_b147 vmM_b147 vmK_b147 vmF_b147 vmX_b147 vmH_b147 vmRow_b147) := hD.sub [0, 1, 2, 3, 4, 5, 6, 7, 8, 9, 10, 11, 12] (by decide) rfl
            refine lv_aload_n hx hb dX5_route_158 rfl (lv_at hl 0 rfl) ?_
            refine lv_iload_n hx hb dX5_route_159 rfl (lv_at hl 2 rfl) ?_
            refine kc_Vi (As := [.int x3_b147]) (rest := [.int r_34, .ref aM]) (wc := wdM cI cJ cZ aM aM1 aM2 aM3 aM4 aM6 aM8 aM9 aM10 aM11 aM12 aM13 aM15 vmN vmR vmBN vmHN_b147 vmL_b147 vmLo vmHi vmC vmZ vmB vmT_b147 vmM_b147 vmK_b147 vmF_b147 vmX_b147 vmH_b147 vmRow_b147) (wr := []) ⟨hx, hb, hml, hown, hts⟩ (cwV 1 hts gX5_route_X5_end rfl rfl rfl (by decide +kernel) ⟨Nat.le_of_ble_eq_true rfl, Nat.le_of_ble_eq_true rfl⟩) hK hN hA hP hD hS [0, 1, 2, 3, 4, 5, 6, 7, 8, 9, 10, 11, 12] [] rfl rfl (by decide) (by decide) (by decide) 0 rfl rfl (k_X5_end l G cI cJ cZ aM aM1 aM2 aM3 aM4 aM6 aM8 aM9 aM10 aM11 aM12 aM13 aM15 _ N vmN vmR vmBN vmHN_b147 vmL_b147 vmLo vmHi vmC vmZ vmB vmT_b147 vmM_b147 vmK_b147 vmF_b147 vmX_b147 vmH_b147 vmRow_b147 x3_b147 _ hw) rfl hl.1 rfl (Nat.le_of_ble_eq_true rfl) dX5_route_160 ⟨Nat.le_of_ble_eq_true rfl, Nat.le_of_ble_eq_true rfl⟩ (fun r_35 u_ H locs hw hP hD hS => ?_)
            replace hP : va_P G vwCl (wdM cI cJ cZ aM aM1 aM2 aM3 aM4 aM6 aM8 aM9 aM10 aM11 aM12 aM13 aM15 vmN vmR vmBN vmHN_b147 vmL_b147 vmLo vmHi vmC vmZ vmB vmT_b147 vmM_b147 vmK_b147 vmF_b147 vmX_b147 vmH_b147 vmRow_b147) H := hP.sub [0, 1, 2, 3, 4, 5, 6, 7, 8, 9, 10, 11, 12] rfl
            replace hD : va_D A (wdM cI cJ cZ aM aM1 aM2 aM3 aM4 aM6 aM8 aM9 aM10 aM11 aM12 aM13 aM15 vmN vmR vmBN vmHN_b147 vmL_b147 vmLo vmHi vmC vmZ vmB vmT_b147 vmM_b147 vmK_b147 vmF_b147 vmX_b147 vmH_b147 vmRow_b147) := hD.sub [0, 1, 2, 3, 4, 5, 6, 7, 8, 9, 10, 11, 12] (by decide) rfl
            refine lv_aload_n hx hb dX5_route_163 rfl (lv_at hl 0 rfl) ?_
            refine lv_iload hx hb dX5_route_164 (lv_at hl 5 rfl) ?_
            refine kc_Vi (As := [.int x7_b147]) (rest := [.int r_35, .int r_34, .ref aM]) (wc := wdM cI cJ cZ aM aM1 aM2 aM3 aM4 aM6 aM8 aM9 aM10 aM11 aM12 aM13 aM15 vmN vmR vmBN vmHN_b147 vmL_b147 vmLo vmHi vmC vmZ vmB vmT_b147 vmM_b147 vmK_b147 vmF_b147 vmX_b147 vmH_b147 vmRow_b147) (wr := []) ⟨hx, hb, hml, hown, hts⟩ (cwV 1 hts gX5_route_X5_end rfl rfl rfl (by decide +kernel) ⟨Nat.le_of_ble_eq_true rfl, Nat.le_of_ble_eq_true rfl⟩) hK hN hA hP hD hS [0, 1, 2, 3, 4, 5, 6, 7, 8, 9, 10, 11, 12] [] rfl rfl (by decide) (by decide) (by decide) 0 rfl rfl (k_X5_end l G cI cJ cZ aM aM1 aM2 aM3 aM4 aM6 aM8 aM9 aM10 aM11 aM12 aM13 aM15 _ N vmN vmR vmBN vmHN_b147 vmL_b147 vmLo vmHi vmC vmZ vmB vmT_b147 vmM_b147 vmK_b147 vmF_b147 vmX_b147 vmH_b147 vmRow_b147 x7_b147 _ hw) rfl hl.1 rfl (Nat.le_of_ble_eq_true rfl) dX5_route_166 ⟨Nat.le_of_ble_eq_true rfl, Nat.le_of_ble_eq_true rfl⟩ (fun r_36 u_ H locs hw hP hD hS => ?_)
            replace hP : va_P G vwCl (wdM cI cJ cZ aM aM1 aM2 aM3 aM4 aM6 aM8 aM9 aM10 aM11 aM12 aM13 aM15 vmN vmR vmBN vmHN_b147 vmL_b147 vmLo vmHi vmC vmZ vmB vmT_b147 vmM_b147 vmK_b147 vmF_b147 vmX_b147 vmH_b147 vmRow_b147) H := hP.sub [0, 1, 2, 3, 4, 5, 6, 7, 8, 9, 10, 11, 12] rfl
            replace hD : va_D A (wdM cI cJ cZ aM aM1 aM2 aM3 aM4 aM6 aM8 aM9 aM10 aM11 aM12 aM13 aM15 vmN vmR vmBN vmHN_b147 vmL_b147 vmLo vmHi vmC vmZ vmB vmT_b147 vmM_b147 vmK_b147 vmF_b147 vmX_b147 vmH_b147 vmRow_b147) := hD.sub [0, 1, 2, 3, 4, 5, 6, 7, 8, 9, 10, 11, 12] (by decide) rfl
            refine kc_Vi (As := [.int r_34, .int r_35, .int r_36]) (rest := []) (wc := wdM cI cJ cZ aM aM1 aM2 aM3 aM4 aM6 aM8 aM9 aM10 aM11 aM12 aM13 aM15 vmN vmR vmBN vmHN_b147 vmL_b147 vmLo vmHi vmC vmZ vmB vmT_b147 vmM_b147 vmK_b147 vmF_b147 vmX_b147 vmH_b147 vmRow_b147) (wr := []) ⟨hx, hb, hml, hown, hts⟩ (cwV 3 hts gX5_route_X5_barAt rfl rfl rfl (by decide +kernel) ⟨Nat.le_of_ble_eq_true rfl, Nat.le_of_ble_eq_true rfl⟩) hK hN hA hP hD hS [0, 1, 2, 3, 4, 5, 6, 7, 8, 9, 10, 11, 12] [] rfl rfl (by decide) (by decide) (by decide) 0 rfl rfl (k_X5_barAt l G cI cJ cZ aM aM1 aM2 aM3 aM4 aM6 aM8 aM9 aM10 aM11 aM12 aM13 aM15 _ N vmN vmR vmBN vmHN_b147 vmL_b147 vmLo vmHi vmC vmZ vmB vmT_b147 vmM_b147 vmK_b147 vmF_b147 vmX_b147 vmH_b147 vmRow_b147 r_34 r_35 r_36 _ hw) rfl hl.1 rfl (Nat.le_of_ble_eq_true rfl) dX5_route_169 ⟨Nat.le_of_ble_eq_true rfl, Nat.le_of_ble_eq_true rfl⟩ (fun r_37 u_ H locs hw hP hD hS => ?_)
            replace hP : va_P G vwCl (wdM cI cJ cZ aM aM1 aM2 aM3 aM4 aM6 aM8 aM9 aM10 aM11 aM12 aM13 aM15 vmN vmR vmBN vmHN_b147 vmL_b147 vmLo vmHi vmC vmZ vmB vmT_b147 vmM_b147 vmK_b147 vmF_b147 vmX_b147 vmH_b147 vmRow_b147) H := hP.sub [0, 1, 2, 3, 4, 5, 6, 7, 8, 9, 10, 11, 12] rfl
            replace hD : va_D A (wdM cI cJ cZ aM aM1 aM2 aM3 aM4 aM6 aM8 aM9 aM10 aM11 aM12 aM13 aM15 vmN vmR vmBN vmHN_b147 vmL_b147 vmLo vmHi vmC vmZ vmB vmT_b147 vmM_b147 vmK_b147 vmF_b147 vmX_b147 vmH_b147 vmRow_b147) := hD.sub [0, 1, 2, 3, 4, 5, 6, 7, 8, 9, 10, 11, 12] (by decide) rfl
            refine lv_if_ge (tgt := 185) hx hb dX5_route_172 (by decide) (fun c_38 => ?_) (fun c_38 => ?_)
            · replace hw := hw.1 c_38
              refine lv_aload_n hx hb dX5_route_185 rfl (lv_at hl 0 rfl) ?_
              refine va_get (D := G) (ci := 5) (v := .ref aM12) (C := RX5) (T := TX5) (N := 17) hx hb hts (fun _ h => List.mem_cons_of_mem _ (List.mem_append_right _ h)) hown hK hP 0 rfl rfl 12 (by decide) (hts _ (List.mem_of_getElem? (i := 5) rfl)) (fun _ h9 => h9) rfl dX5_route_186 ?_
              refine lv_iload hx hb dX5_route_189 (lv_at hl 5 rfl) ?_
              have h_39 := hw.1
              replace hw := hw.2
              refine va_iald hx hb hK hP 10 0 rfl rfl h_39 dX5_route_191 ?_
              refine lv_topi (fun x7_40 e_41 => ?_)
              replace hw := hw x7_40 e_41
              refine lv_istore (lv' := [(7, .int x7_40), (0, .ref aM), (2, .int x2), (3, .int x3_b147), (4, .long x4_b147), (6, .int x6_b147)]) hx hb dX5_route_192 hl (by decide) rfl (fun ls hl => ?_)
              refine lv_goto (tgt := 147) hx hb dX5_route_194 (by decide) ?_
              replace hl : lv_has ls 8 [(0, .ref aM), (2, .int x2), (3, .int x3_b147), (4, .long x4_b147), (6, .int x6_b147), (7, .int x7_40)] := lv_sub hl [1, 2, 3, 4, 5, 0] rfl
              exact ih147 vmHN_b147 vmL_b147 vmT_b147 vmM_b147 vmK_b147 vmF_b147 vmX_b147 vmH_b147 vmRow_b147 x3_b147 x4_b147 x6_b147 x7_40 _ _ _ hw hP hD hS hl
            · replace hw := hw.2 c_38
              refine lv_aload_n hx hb dX5_route_175 rfl (lv_at hl 0 rfl) ?_
              refine lv_iload hx hb dX5_route_176 (lv_at hl 4 rfl) ?_
              refine lv_iload hx hb dX5_route_178 (lv_at hl 5 rfl) ?_
              refine kc_Vi (As := [.int x6_b147, .int x7_b147]) (rest := []) (wc := wdM cI cJ cZ aM aM1 aM2 aM3 aM4 aM6 aM8 aM9 aM10 aM11 aM12 aM13 aM15 vmN vmR vmBN vmHN_b147 vmL_b147 vmLo vmHi vmC vmZ vmB vmT_b147 vmM_b147 vmK_b147 vmF_b147 vmX_b147 vmH_b147 vmRow_b147) (wr := []) ⟨hx, hb, hml, hown, hts⟩ (cwV 2 hts gX5_route_X5_better rfl rfl rfl (by decide +kernel) ⟨Nat.le_of_ble_eq_true rfl, Nat.le_of_ble_eq_true rfl⟩) hK hN hA hP hD hS [0, 1, 2, 3, 4, 5, 6, 7, 8, 9, 10, 11, 12] [] rfl rfl (by decide) (by decide) (by decide) 0 rfl rfl (k_X5_better l G cI cJ cZ aM aM1 aM2 aM3 aM4 aM6 aM8 aM9 aM10 aM11 aM12 aM13 aM15 _ N vmN vmR vmBN vmHN_b147 vmL_b147 vmLo vmHi vmC vmZ vmB vmT_b147 vmM_b147 vmK_b147 vmF_b147 vmX_b147 vmH_b147 vmRow_b147 x6_b147 x7_b147 _ hw) rfl hl.1 rfl (Nat.le_of_ble_eq_true rfl) dX5_route_180 ⟨Nat.le_of_ble_eq_true rfl, Nat.le_of_ble_eq_true rfl⟩ (fun r_42 u_ H locs hw hP hD hS => ?_)
              replace hP : va_P G vwCl (wdM cI cJ cZ aM aM1 aM2 aM3 aM4 aM6 aM8 aM9 aM10 aM11 aM12 aM13 aM15 vmN vmR vmBN vmHN_b147 vmL_b147 vmLo vmHi vmC vmZ vmB vmT_b147 vmM_b147 vmK_b147 vmF_b147 vmX_b147 vmH_b147 vmRow_b147) H := hP.sub [0, 1, 2, 3, 4, 5, 6, 7, 8, 9, 10, 11, 12] rfl
              replace hD : va_D A (wdM cI cJ cZ aM aM1 aM2 aM3 aM4 aM6 aM8 aM9 aM10 aM11 aM12 aM13 aM15 vmN vmR vmBN vmHN_b147 vmL_b147 vmLo vmHi vmC vmZ vmB vmT_b147 vmM_b147 vmK_b147 vmF_b147 vmX_b147 vmH_b147 vmRow_b147) := hD.sub [0, 1, 2, 3, 4, 5, 6, 7, 8, 9, 10, 11, 12] (by decide) rfl
              refine lv_istore (lv' := [(6, .int r_42), (0, .ref aM), (2, .int x2), (3, .int x3_b147), (4, .long x4_b147), (7, .int x7_b147)]) hx hb dX5_route_183 hl (by decide) rfl (fun ls hl => ?_)
              refine lv_aload_n hx hb dX5_route_185 rfl (lv_at hl 1 rfl) ?_
              refine va_get (D := G) (ci := 5) (v := .ref aM12) (C := RX5) (T := TX5) (N := 17) hx hb hts (fun _ h => List.mem_cons_of_mem _ (List.mem_append_right _ h)) hown hK hP 0 rfl rfl 12 (by decide) (hts _ (List.mem_of_getElem? (i := 5) rfl)) (fun _ h9 => h9) rfl dX5_route_186 ?_
              refine lv_iload hx hb dX5_route_189 (lv_at hl 5 rfl) ?_
              have h_43 := hw.1
              replace hw := hw.2
              refine va_iald hx hb hK hP 10 0 rfl rfl h_43 dX5_route_191 ?_
              refine lv_topi (fun x7_44 e_45 => ?_)
              replace hw := hw x7_44 e_45
              refine lv_istore (lv' := [(7, .int x7_44), (6, .int r_42), (0, .ref aM), (2, .int x2), (3, .int x3_b147), (4, .long x4_b147)]) hx hb dX5_route_192 hl (by decide) rfl (fun ls hl => ?_)
              refine lv_goto (tgt := 147) hx hb dX5_route_194 (by decide) ?_
              replace hl : lv_has ls 8 [(0, .ref aM), (2, .int x2), (3, .int x3_b147), (4, .long x4_b147), (6, .int r_42), (7, .int x7_44)] := lv_sub hl [2, 3, 4, 5, 1, 0] rfl
              exact ih147 vmHN_b147 vmL_b147 vmT_b147 vmM_b147 vmK_b147 vmF_b147 vmX_b147 vmH_b147 vmRow_b147 x3_b147 x4_b147 r_42 x7_44 _ _ _ hw hP hD hS hl
      refine lv_aload_n hx hb dX5_route_123 rfl (lv_at hl 0 rfl) ?_
      refine lv_iload_n hx hb dX5_route_124 rfl (lv_at hl 2 rfl) ?_
      refine kc_Vi (As := [.int x3_b123]) (rest := []) (wc := wdM cI cJ cZ aM aM1 aM2 aM3 aM4 aM6 aM8 aM9 aM10 aM11 aM12 aM13 aM15 vmN vmR vmBN vmHN_b123 vmL_b123 vmLo vmHi vmC vmZ vmB vmT_b123 vmM_b123 vmK_b123 vmF_b123 vmX_b123 vmH_b123 vmRow_b123) (wr := []) ⟨hx, hb, hml, hown, hts⟩ (cwV 1 hts gX5_route_X5_end rfl rfl rfl (by decide +kernel) ⟨Nat.le_of_ble_eq_true rfl, Nat.le_of_ble_eq_true rfl⟩) hK hN hA hP hD hS [0, 1, 2, 3, 4, 5, 6, 7, 8, 9, 10, 11, 12] [] rfl rfl (by decide) (by decide) (by decide) 0 rfl rfl (k_X5_end l G cI cJ cZ aM aM1 aM2 aM3 aM4 aM6 aM8 aM9 aM10 aM11 aM12 aM13 aM15 _ N vmN vmR vmBN vmHN_b123 vmL_b123 vmLo vmHi vmC vmZ vmB vmT_b123 vmM_b123 vmK_b123 vmF_b123 vmX_b123 vmH_b123 vmRow_b123 x3_b123 _ hw) rfl hl.1 rfl (Nat.le_of_ble_eq_true rfl) dX5_route_125 ⟨Nat.le_of_ble_eq_true rfl, Nat.le_of_ble_eq_true rfl⟩ (fun r_25 u_ H locs hw hP hD hS => ?_)
      replace hP : va_P G vwCl (wdM cI cJ cZ aM aM1 aM2 aM3 aM4 aM6 aM8 aM9 aM10 aM11 aM12 aM13 aM15 vmN vmR vmBN vmHN_b123 vmL_b123 vmLo vmHi vmC vmZ vmB vmT_b123 vmM_b123 vmK_b123 vmF_b123 vmX_b123 vmH_b123 vmRow_b123) H := hP.sub [0, 1, 2, 3, 4, 5, 6, 7, 8, 9, 10, 11, 12] rfl
      replace hD : va_D A (wdM cI cJ cZ aM aM1 aM2 aM3 aM4 aM6 aM8 aM9 aM10 aM11 aM12 aM13 aM15 vmN vmR vmBN vmHN_b123 vmL_b123 vmLo vmHi vmC vmZ vmB vmT_b123 vmM_b123 vmK_b123 vmF_b123 vmX_b123 vmH_b123 vmRow_b123) := hD.sub [0, 1, 2, 3, 4, 5, 6, 7, 8, 9, 10, 11, 12] (by decide) rfl
      refine lv_iload_n hx hb dX5_route_128 rfl (lv_at hl 1 rfl) ?_
      refine lv_icmp_eq (tgt := 227) hx hb dX5_route_129 (by decide) (fun c_26 => ?_) (fun c_26 => ?_)
      · replace hw := hw.1 c_26
        refine lv_lload hx hb dX5_route_227 (lv_at hl 3 rfl) ?_
        exact hret 229 x4_b123 (vmHN_b123, vmL_b123, vmT_b123, vmM_b123, vmK_b123, vmF_b123, vmX_b123, vmH_b123, vmRow_b123) _ _ _ dX5_route_229 hw hP hD hS
      · replace hw := hw.2 c_26
        refine lv_iconst (v := (-1 : Int32)) hx hb dX5_route_132 (by decide) ?_
        refine lv_istore (lv' := [(6, .int (-1 : Int32)), (0, .ref aM), (2, .int x2), (3, .int x3_b123), (4, .long x4_b123)]) hx hb dX5_route_133 hl (by decide) rfl (fun ls hl => ?_)
        refine lv_aload_n hx hb dX5_route_135 rfl (lv_at hl 1 rfl) ?_
        refine va_get (D := G) (ci := 5) (v := .ref aM11) (C := RX5) (T := TX5) (N := 17) hx hb hts (fun _ h => List.mem_cons_of_mem _ (List.mem_append_right _ h)) hown hK hP 0 rfl rfl 11 (by decide) (hts _ (List.mem_of_getElem? (i := 4) rfl)) (fun _ h9 => h9) rfl dX5_route_136 ?_
        refine lv_aload_n hx hb dX5_route_139 rfl (lv_at hl 1 rfl) ?_
        refine lv_iload_n hx hb dX5_route_140 rfl (lv_at hl 3 rfl) ?_
        refine kc_Vi (As := [.int x3_b123]) (rest := [.ref aM11]) (wc := wdM cI cJ cZ aM aM1 aM2 aM3 aM4 aM6 aM8 aM9 aM10 aM11 aM12 aM13 aM15 vmN vmR vmBN vmHN_b123 vmL_b123 vmLo vmHi vmC vmZ vmB vmT_b123 vmM_b123 vmK_b123 vmF_b123 vmX_b123 vmH_b123 vmRow_b123) (wr := []) ⟨hx, hb, hml, hown, hts⟩ (cwV 1 hts gX5_route_X5_end rfl rfl rfl (by decide +kernel) ⟨Nat.le_of_ble_eq_true rfl, Nat.le_of_ble_eq_true rfl⟩) hK hN hA hP hD hS [0, 1, 2, 3, 4, 5, 6, 7, 8, 9, 10, 11, 12] [] rfl rfl (by decide) (by decide) (by decide) 0 rfl rfl (k_X5_end l G cI cJ cZ aM aM1 aM2 aM3 aM4 aM6 aM8 aM9 aM10 aM11 aM12 aM13 aM15 _ N vmN vmR vmBN vmHN_b123 vmL_b123 vmLo vmHi vmC vmZ vmB vmT_b123 vmM_b123 vmK_b123 vmF_b123 vmX_b123 vmH_b123 vmRow_b123 x3_b123 _ hw) rfl hl.1 rfl (Nat.le_of_ble_eq_true rfl) dX5_route_141 ⟨Nat.le_of_ble_eq_true rfl, Nat.le_of_ble_eq_true rfl⟩ (fun r_27 u_ H locs hw hP hD hS => ?_)
        replace hP : va_P G vwCl (wdM cI cJ cZ aM aM1 aM2 aM3 aM4 aM6 aM8 aM9 aM10 aM11 aM12 aM13 aM15 vmN vmR vmBN vmHN_b123 vmL_b123 vmLo vmHi vmC vmZ vmB vmT_b123 vmM_b123 vmK_b123 vmF_b123 vmX_b123 vmH_b123 vmRow_b123) H := hP.sub [0, 1, 2, 3, 4, 5, 6, 7, 8, 9, 10, 11, 12] rfl
        replace hD : va_D A (wdM cI cJ cZ aM aM1 aM2 aM3 aM4 aM6 aM8 aM9 aM10 aM11 aM12 aM13 aM15 vmN vmR vmBN vmHN_b123 vmL_b123 vmLo vmHi vmC vmZ vmB vmT_b123 vmM_b123 vmK_b123 vmF_b123 vmX_b123 vmH_b123 vmRow_b123) := hD.sub [0, 1, 2, 3, 4, 5, 6, 7, 8, 9, 10, 11, 12] (by decide) rfl
        have h_28 := hw.1
        replace hw := hw.2
        refine va_iald hx hb hK hP 9 0 rfl rfl h_28 dX5_route_144 ?_
        refine lv_topi (fun x7_29 e_30 => ?_)
        replace hw := hw x7_29 e_30
        refine lv_istore (lv' := [(7, .int x7_29), (6, .int (-1 : Int32)), (0, .ref aM), (2, .int x2), (3, .int x3_b123), (4, .long x4_b123)]) hx hb dX5_route_145 hl (by decide) rfl (fun ls hl => ?_)
        replace hl : lv_has ls 8 [(0, .ref aM), (2, .int x2), (3, .int x3_b123), (4, .long x4_b123), (6, .int (-1 : Int32)), (7, .int x7_29)] := lv_sub hl [2, 3, 4, 5, 1, 0] rfl
        exact b147 N vmHN_b123 vmL_b123 vmT_b123 vmM_b123 vmK_b123 vmF_b123 vmX_b123 vmH_b123 vmRow_b123 x3_b123 x4_b123 (-1 : Int32) x7_29 _ _ _ hw hP hD hS hl
  have b59 : ∀ (n59 : Nat) (vmHN_b59 : Int32) (vmL_b59 : Int32) (vmT_b59 : Nat → Int64) (vmM_b59 : Nat → Int32) (vmK_b59 : Nat → Int32) (vmF_b59 : Nat → Int32) (vmX_b59 : Nat → Int32) (vmH_b59 : Nat → Int32) (vmRow_b59 : Nat → Int32) (x3_b59 : Int32) (x4_b59 : Int32) (H : Heap) (locs : List Loc) (ls : Array Slot), w_X5_route_b59 N vmBN vmLo vmHi vmB x1 x2 post n59 vmHN_b59 vmL_b59 vmT_b59 vmM_b59 vmK_b59 vmF_b59 vmX_b59 vmH_b59 vmRow_b59 x3_b59 x4_b59 → va_P G vwCl (wdM cI cJ cZ aM aM1 aM2 aM3 aM4 aM6 aM8 aM9 aM10 aM11 aM12 aM13 aM15 vmN vmR vmBN vmHN_b59 vmL_b59 vmLo vmHi vmC vmZ vmB vmT_b59 vmM_b59 vmK_b59 vmF_b59 vmX_b59 vmH_b59 vmRow_b59) H → va_D A (wdM cI cJ cZ aM aM1 aM2 aM3 aM4 aM6 aM8 aM9 aM10 aM11 aM12 aM13 aM15 vmN vmR vmBN vmHN_b59 vmL_b59 vmLo vmHi vmC vmZ vmB vmT_b59 vmM_b59 vmK_b59 vmF_b59 vmX_b59 vmH_b59 vmRow_b59) → va_S A s.heap H locs → lv_has ls 8 [(0, .ref aM), (1, .int x1), (2, .int x2), (3, .int x3_b59), (4, .int x4_b59)] → W p l e rm_X5_route s m ([.ref aM, .int x1, .int x2] : List Value).toArray below meth c H locs 0 0 Q (F0 m 59 ls []) := by
    intro n59
    induction n59 with
    | zero => intro vmHN_b59 vmL_b59 vmT_b59 vmM_b59 vmK_b59 vmF_b59 vmX_b59 vmH_b59 vmRow_b59 x3_b59 x4_b59 H locs ls hw; exact hw.elim
    | succ n59 ih59 =>
      intro vmHN_b59 vmL_b59 vmT_b59 vmM_b59 vmK_b59 vmF_b59 vmX_b59 vmH_b59 vmRow_b59 x3_b59 x4_b59 H locs ls hw hP hD hS hl
      replace hw : w_X5_route_b59_B N vmBN vmLo vmHi vmB x1 x2 post (w_X5_route_b59 N vmBN vmLo vmHi vmB x1 x2 post n59) vmHN_b59 vmL_b59 vmT_b59 vmM_b59 vmK_b59 vmF_b59 vmX_b59 vmH_b59 vmRow_b59 x3_b59 x4_b59 := hw
      unfold w_X5_route_b59_B at hw
      refine lv_iload hx hb dX5_route_59 (lv_at hl 4 rfl) ?_
      refine lv_if_lt (tgt := 84) hx hb dX5_route_61 (by decide) (fun c_17 => ?_) (fun c_17 => ?_)
      · replace hw := hw.1 c_17
        refine lv_iload_n hx hb dX5_route_84 rfl (lv_at hl 3 rfl) ?_
        refine lv_if_ge (tgt := 92) hx hb dX5_route_85 (by decide) (fun c_18 => ?_) (fun c_18 => ?_)
        · replace hw := hw.1 c_18
          refine lv_aload_n hx hb dX5_route_92 rfl (lv_at hl 0 rfl) ?_
          refine va_get (D := G) (ci := 5) (v := .ref aM8) (C := RX5) (T := TX5) (N := 17) hx hb hts (fun _ h => List.mem_cons_of_mem _ (List.mem_append_right _ h)) hown hK hP 0 rfl rfl 8 (by decide) (hts _ (List.mem_of_getElem? (i := 7) rfl)) (fun _ h9 => h9) rfl dX5_route_93 ?_
          refine lv_iload_n hx hb dX5_route_96 rfl (lv_at hl 3 rfl) ?_
          have h_19 := hw.1
          replace hw := hw.2
          refine va_lald hx hb hK hP 6 1 rfl rfl h_19 dX5_route_97 ?_
          refine lv_topl (fun x4_20 e_21 => ?_)
          replace hw := hw x4_20 e_21
          refine lv_lstore (lv' := [(4, .long x4_20), (0, .ref aM), (1, .int x1), (2, .int x2), (3, .int x3_b59)]) hx hb dX5_route_98 hl (by decide) rfl (fun ls hl => ?_)
          refine lv_aload_n hx hb dX5_route_100 rfl (lv_at hl 1 rfl) ?_
          refine va_get (D := G) (ci := 5) (v := .ref aM15) (C := RX5) (T := TX5) (N := 17) hx hb hts (fun _ h => List.mem_cons_of_mem _ (List.mem_append_right _ h)) hown hK hP 0 rfl rfl 15 (by decide) (hts _ (List.mem_of_getElem? (i := 3) rfl)) (fun _ h9 => h9) rfl dX5_route_101 ?_
          refine lv_iconst (v := (0 : Int32)) hx hb dX5_route_104 (by decide) ?_
          refine lv_iload_n hx hb dX5_route_105 rfl (lv_at hl 2 rfl) ?_
          have h_22 := hw.1
          replace hw := hw.2
          refine va_iast hx hb hK hP hD hS 12 0 rfl rfl h_22 dX5_route_106 (fun H locs hP hD hS => ?_)
          replace hP : va_P G vwCl (wdM cI cJ cZ aM aM1 aM2 aM3 aM4 aM6 aM8 aM9 aM10 aM11 aM12 aM13 aM15 vmN vmR vmBN vmHN_b59 vmL_b59 vmLo vmHi vmC vmZ vmB vmT_b59 vmM_b59 vmK_b59 vmF_b59 vmX_b59 vmH_b59 (upd vmRow_b59 (0 : Int32).toNatClampNeg x1)) H := hP
          replace hD : va_D A (wdM cI cJ cZ aM aM1 aM2 aM3 aM4 aM6 aM8 aM9 aM10 aM11 aM12 aM13 aM15 vmN vmR vmBN vmHN_b59 vmL_b59 vmLo vmHi vmC vmZ vmB vmT_b59 vmM_b59 vmK_b59 vmF_b59 vmX_b59 vmH_b59 (upd vmRow_b59 (0 : Int32).toNatClampNeg x1)) := hD
          refine lv_aload_n hx hb dX5_route_107 rfl (lv_at hl 1 rfl) ?_
          refine va_get (D := G) (ci := 5) (v := .ref aM15) (C := RX5) (T := TX5) (N := 17) hx hb hts (fun _ h => List.mem_cons_of_mem _ (List.mem_append_right _ h)) hown hK hP 0 rfl rfl 15 (by decide) (hts _ (List.mem_of_getElem? (i := 3) rfl)) (fun _ h9 => h9) rfl dX5_route_108 ?_
          refine lv_iconst (v := (1 : Int32)) hx hb dX5_route_111 (by decide) ?_
          refine lv_aload_n hx hb dX5_route_112 rfl (lv_at hl 1 rfl) ?_
          refine lv_iload_n hx hb dX5_route_113 rfl (lv_at hl 4 rfl) ?_
          refine kc_Vi (As := [.int x3_b59]) (rest := [.int (1 : Int32), .ref aM15]) (wc := wdM cI cJ cZ aM aM1 aM2 aM3 aM4 aM6 aM8 aM9 aM10 aM11 aM12 aM13 aM15 vmN vmR vmBN vmHN_b59 vmL_b59 vmLo vmHi vmC vmZ vmB vmT_b59 vmM_b59 vmK_b59 vmF_b59 vmX_b59 vmH_b59 (upd vmRow_b59 (0 : Int32).toNatClampNeg x1)) (wr := []) ⟨hx, hb, hml, hown, hts⟩ (cwV 1 hts gX5_route_X5_end rfl rfl rfl (by decide +kernel) ⟨Nat.le_of_ble_eq_true rfl, Nat.le_of_ble_eq_true rfl⟩) hK hN hA hP hD hS [0, 1, 2, 3, 4, 5, 6, 7, 8, 9, 10, 11, 12] [] rfl rfl (by decide) (by decide) (by decide) 0 rfl rfl (k_X5_end l G cI cJ cZ aM aM1 aM2 aM3 aM4 aM6 aM8 aM9 aM10 aM11 aM12 aM13 aM15 _ N vmN vmR vmBN vmHN_b59 vmL_b59 vmLo vmHi vmC vmZ vmB vmT_b59 vmM_b59 vmK_b59 vmF_b59 vmX_b59 vmH_b59 (upd vmRow_b59 (0 : Int32).toNatClampNeg x1) x3_b59 _ hw) rfl hl.1 rfl (Nat.le_of_ble_eq_true rfl) dX5_route_114 ⟨Nat.le_of_ble_eq_true rfl, Nat.le_of_ble_eq_true rfl⟩ (fun r_23 u_ H locs hw hP hD hS => ?_)
          replace hP : va_P G vwCl (wdM cI cJ cZ aM aM1 aM2 aM3 aM4 aM6 aM8 aM9 aM10 aM11 aM12 aM13 aM15 vmN vmR vmBN vmHN_b59 vmL_b59 vmLo vmHi vmC vmZ vmB vmT_b59 vmM_b59 vmK_b59 vmF_b59 vmX_b59 vmH_b59 (upd vmRow_b59 (0 : Int32).toNatClampNeg x1)) H := hP.sub [0, 1, 2, 3, 4, 5, 6, 7, 8, 9, 10, 11, 12] rfl
          replace hD : va_D A (wdM cI cJ cZ aM aM1 aM2 aM3 aM4 aM6 aM8 aM9 aM10 aM11 aM12 aM13 aM15 vmN vmR vmBN vmHN_b59 vmL_b59 vmLo vmHi vmC vmZ vmB vmT_b59 vmM_b59 vmK_b59 vmF_b59 vmX_b59 vmH_b59 (upd vmRow_b59 (0 : Int32).toNatClampNeg x1)) := hD.sub [0, 1, 2, 3, 4, 5, 6, 7, 8, 9, 10, 11, 12] (by decide) rfl
          have h_24 := hw.1
          replace hw := hw.2
          refine va_iast hx hb hK hP hD hS 12 0 rfl rfl h_24 dX5_route_117 (fun H locs hP hD hS => ?_)
          replace hP : va_P G vwCl (wdM cI cJ cZ aM aM1 aM2 aM3 aM4 aM6 aM8 aM9 aM10 aM11 aM12 aM13 aM15 vmN vmR vmBN vmHN_b59 vmL_b59 vmLo vmHi vmC vmZ vmB vmT_b59 vmM_b59 vmK_b59 vmF_b59 vmX_b59 vmH_b59 (upd (upd vmRow_b59 (0 : Int32).toNatClampNeg x1) (1 : Int32).toNatClampNeg r_23)) H := hP
          replace hD : va_D A (wdM cI cJ cZ aM aM1 aM2 aM3 aM4 aM6 aM8 aM9 aM10 aM11 aM12 aM13 aM15 vmN vmR vmBN vmHN_b59 vmL_b59 vmLo vmHi vmC vmZ vmB vmT_b59 vmM_b59 vmK_b59 vmF_b59 vmX_b59 vmH_b59 (upd (upd vmRow_b59 (0 : Int32).toNatClampNeg x1) (1 : Int32).toNatClampNeg r_23)) := hD
          refine lv_aload_n hx hb dX5_route_118 rfl (lv_at hl 1 rfl) ?_
          refine lv_iconst (v := (2 : Int32)) hx hb dX5_route_119 (by decide) ?_
          refine va_put (D := G) (ci := 5) (v := .int (2 : Int32)) (ty := .int) (C := RX5) (T := TX5) (N := 17) hx hb hts (fun _ h => List.mem_cons_of_mem _ (List.mem_append_right _ h)) tyX5 tyX5_ok nmX5 hown hK hP hD hS 0 rfl rfl 16 (by decide) (hts _ (List.mem_of_getElem? (i := 1) rfl)) (fun _ h9 => h9) rfl (by decide +kernel) rfl rfl (Nat.le_of_ble_eq_true rfl) dX5_route_120 (fun H locs hP hD hS => ?_)
          replace hP : va_P G vwCl (wdM cI cJ cZ aM aM1 aM2 aM3 aM4 aM6 aM8 aM9 aM10 aM11 aM12 aM13 aM15 vmN vmR vmBN vmHN_b59 (2 : Int32) vmLo vmHi vmC vmZ vmB vmT_b59 vmM_b59 vmK_b59 vmF_b59 vmX_b59 vmH_b59 (upd (upd vmRow_b59 (0 : Int32).toNatClampNeg x1) (1 : Int32).toNatClampNeg r_23)) H := hP
          replace hD : va_D A (wdM cI cJ cZ aM aM1 aM2 aM3 aM4 aM6 aM8 aM9 aM10 aM11 aM12 aM13 aM15 vmN vmR vmBN vmHN_b59 (2 : Int32) vmLo vmHi vmC vmZ vmB vmT_b59 vmM_b59 vmK_b59 vmF_b59 vmX_b59 vmH_b59 (upd (upd vmRow_b59 (0 : Int32).toNatClampNeg x1) (1 : Int32).toNatClampNeg r_23)) := hD
          replace hl : lv_has ls 8 [(0, .ref aM), (2, .int x2), (3, .int x3_b59), (4, .long x4_20)] := lv_sub hl [1, 3, 4, 0] rfl
          exact b123 N vmHN_b59 (2 : Int32) vmT_b59 vmM_b59 vmK_b59 vmF_b59 vmX_b59 vmH_b59 (upd (upd vmRow_b59 (0 : Int32).toNatClampNeg x1) (1 : Int32).toNatClampNeg r_23) x3_b59 x4_20 _ _ _ hw hP hD hS hl
        · replace hw := hw.2 c_18
          refine lv_ldc2 (v := (-3 : Int64)) hx hb hown (hts _ (List.mem_of_getElem? (i := 6) rfl)) dX5_route_88 ?_
          exact hret 91 (-3 : Int64) (vmHN_b59, vmL_b59, vmT_b59, vmM_b59, vmK_b59, vmF_b59, vmX_b59, vmH_b59, vmRow_b59) _ _ _ dX5_route_91 hw hP hD hS
      · replace hw := hw.2 c_17
        refine lv_aload_n hx hb dX5_route_64 rfl (lv_at hl 0 rfl) ?_
        refine lv_iload_n hx hb dX5_route_65 rfl (lv_at hl 3 rfl) ?_
        refine lv_iload hx hb dX5_route_66 (lv_at hl 4 rfl) ?_
        refine kc_Vi (As := [.int x3_b59, .int x4_b59]) (rest := []) (wc := wdM cI cJ cZ aM aM1 aM2 aM3 aM4 aM6 aM8 aM9 aM10 aM11 aM12 aM13 aM15 vmN vmR vmBN vmHN_b59 vmL_b59 vmLo vmHi vmC vmZ vmB vmT_b59 vmM_b59 vmK_b59 vmF_b59 vmX_b59 vmH_b59 vmRow_b59) (wr := []) ⟨hx, hb, hml, hown, hts⟩ (cwV 2 hts gX5_route_X5_better rfl rfl rfl (by decide +kernel) ⟨Nat.le_of_ble_eq_true rfl, Nat.le_of_ble_eq_true rfl⟩) hK hN hA hP hD hS [0, 1, 2, 3, 4, 5, 6, 7, 8, 9, 10, 11, 12] [] rfl rfl (by decide) (by decide) (by decide) 0 rfl rfl (k_X5_better l G cI cJ cZ aM aM1 aM2 aM3 aM4 aM6 aM8 aM9 aM10 aM11 aM12 aM13 aM15 _ N vmN vmR vmBN vmHN_b59 vmL_b59 vmLo vmHi vmC vmZ vmB vmT_b59 vmM_b59 vmK_b59 vmF_b59 vmX_b59 vmH_b59 vmRow_b59 x3_b59 x4_b59 _ hw) rfl hl.1 rfl (Nat.le_of_ble_eq_true rfl) dX5_route_68 ⟨Nat.le_of_ble_eq_true rfl, Nat.le_of_ble_eq_true rfl⟩ (fun r_46 u_ H locs hw hP hD hS => ?_)
        replace hP : va_P G vwCl (wdM cI cJ cZ aM aM1 aM2 aM3 aM4 aM6 aM8 aM9 aM10 aM11 aM12 aM13 aM15 vmN vmR vmBN vmHN_b59 vmL_b59 vmLo vmHi vmC vmZ vmB vmT_b59 vmM_b59 vmK_b59 vmF_b59 vmX_b59 vmH_b59 vmRow_b59) H := hP.sub [0, 1, 2, 3, 4, 5, 6, 7, 8, 9, 10, 11, 12] rfl
        replace hD : va_D A (wdM cI cJ cZ aM aM1 aM2 aM3 aM4 aM6 aM8 aM9 aM10 aM11 aM12 aM13 aM15 vmN vmR vmBN vmHN_b59 vmL_b59 vmLo vmHi vmC vmZ vmB vmT_b59 vmM_b59 vmK_b59 vmF_b59 vmX_b59 vmH_b59 vmRow_b59) := hD.sub [0, 1, 2, 3, 4, 5, 6, 7, 8, 9, 10, 11, 12] (by decide) rfl
        refine lv_istore_n (lv' := [(3, .int r_46), (0, .ref aM), (1, .int x1), (2, .int x2), (4, .int x4_b59)]) hx hb dX5_route_71 rfl hl (by decide) rfl (fun ls hl => ?_)
        refine lv_aload_n hx hb dX5_route_72 rfl (lv_at hl 1 rfl) ?_
        refine va_get (D := G) (ci := 5) (v := .ref aM12) (C := RX5) (T := TX5) (N := 17) hx hb hts (fun _ h => List.mem_cons_of_mem _ (List.mem_append_right _ h)) hown hK hP 0 rfl rfl 12 (by decide) (hts _ (List.mem_of_getElem? (i := 5) rfl)) (fun _ h9 => h9) rfl dX5_route_73 ?_
        refine lv_iload hx hb dX5_route_76 (lv_at hl 4 rfl) ?_
        have h_47 := hw.1
        replace hw := hw.2
        refine va_iald hx hb hK hP 10 0 rfl rfl h_47 dX5_route_78 ?_
        refine lv_topi (fun x4_48 e_49 => ?_)
        replace hw := hw x4_48 e_49
        refine lv_istore (lv' := [(4, .int x4_48), (3, .int r_46), (0, .ref aM), (1, .int x1), (2, .int x2)]) hx hb dX5_route_79 hl (by decide) rfl (fun ls hl => ?_)
        refine lv_goto (tgt := 59) hx hb dX5_route_81 (by decide) ?_
        replace hl : lv_has ls 8 [(0, .ref aM), (1, .int x1), (2, .int x2), (3, .int r_46), (4, .int x4_48)] := lv_sub hl [2, 3, 4, 1, 0] rfl
        exact ih59 vmHN_b59 vmL_b59 vmT_b59 vmM_b59 vmK_b59 vmF_b59 vmX_b59 vmH_b59 vmRow_b59 r_46 x4_48 _ _ _ hw hP hD hS hl
  unfold w_X5_route at hw
  refine lv_aload_n hx hb dX5_route_0 rfl (lv_at hl 0 rfl) ?_
  refine lv_iconst (v := (0 : Int32)) hx hb dX5_route_1 (by decide) ?_
  refine va_put (D := G) (ci := 5) (v := .int (0 : Int32)) (ty := .int) (C := RX5) (T := TX5) (N := 17) hx hb hts (fun _ h => List.mem_cons_of_mem _ (List.mem_append_right _ h)) tyX5 tyX5_ok nmX5 hown hK hP hD hS 0 rfl rfl 16 (by decide) (hts _ (List.mem_of_getElem? (i := 1) rfl)) (fun _ h9 => h9) rfl (by decide +kernel) rfl rfl (Nat.le_of_ble_eq_true rfl) dX5_route_2 (fun H locs hP hD hS => ?_)
  replace hP : va_P G vwCl (wdM cI cJ cZ aM aM1 aM2 aM3 aM4 aM6 aM8 aM9 aM10 aM11 aM12 aM13 aM15 vmN vmR vmBN vmHN (0 : Int32) vmLo vmHi vmC vmZ vmB vmT vmM vmK vmF vmX vmH vmRow) H := hP
  replace hD : va_D A (wdM cI cJ cZ aM aM1 aM2 aM3 aM4 aM6 aM8 aM9 aM10 aM11 aM12 aM13 aM15 vmN vmR vmBN vmHN (0 : Int32) vmLo vmHi vmC vmZ vmB vmT vmM vmK vmF vmX vmH vmRow) := hD
  refine lv_aload_n hx hb dX5_route_5 rfl (lv_at hl 0 rfl) ?_
  refine lv_iload_n hx hb dX5_route_6 rfl (lv_at hl 1 rfl) ?_
  refine kc_Vi (As := [.int x1]) (rest := []) (wc := wdM cI cJ cZ aM aM1 aM2 aM3 aM4 aM6 aM8 aM9 aM10 aM11 aM12 aM13 aM15 vmN vmR vmBN vmHN (0 : Int32) vmLo vmHi vmC vmZ vmB vmT vmM vmK vmF vmX vmH vmRow) (wr := []) ⟨hx, hb, hml, hown, hts⟩ (cwV 1 hts gX5_route_X5_isNode rfl rfl rfl (by decide +kernel) ⟨Nat.le_of_ble_eq_true rfl, Nat.le_of_ble_eq_true rfl⟩) hK hN hA hP hD hS [0, 1, 2, 3, 4, 5, 6, 7, 8, 9, 10, 11, 12] [] rfl rfl (by decide) (by decide) (by decide) 0 rfl rfl (k_X5_isNode l G cI cJ cZ aM aM1 aM2 aM3 aM4 aM6 aM8 aM9 aM10 aM11 aM12 aM13 aM15 _ N vmN vmR vmBN vmHN (0 : Int32) vmLo vmHi vmC vmZ vmB vmT vmM vmK vmF vmX vmH vmRow x1 _ hw) rfl hl.1 rfl (Nat.le_of_ble_eq_true rfl) dX5_route_7 ⟨Nat.le_of_ble_eq_true rfl, Nat.le_of_ble_eq_true rfl⟩ (fun r_1 u_ H locs hw hP hD hS => ?_)
  replace hP : va_P G vwCl (wdM cI cJ cZ aM aM1 aM2 aM3 aM4 aM6 aM8 aM9 aM10 aM11 aM12 aM13 aM15 vmN vmR vmBN vmHN (0 : Int32) vmLo vmHi vmC vmZ vmB vmT vmM vmK vmF vmX vmH vmRow) H := hP.sub [0, 1, 2, 3, 4, 5, 6, 7, 8, 9, 10, 11, 12] rfl
  replace hD : va_D A (wdM cI cJ cZ aM aM1 aM2 aM3 aM4 aM6 aM8 aM9 aM10 aM11 aM12 aM13 aM15 vmN vmR vmBN vmHN (0 : Int32) vmLo vmHi vmC vmZ vmB vmT vmM vmK vmF vmX vmH vmRow) := hD.sub [0, 1, 2, 3, 4, 5, 6, 7, 8, 9, 10, 11, 12] (by decide) rfl
  refine lv_if_eq (tgt := 21) hx hb dX5_route_10 (by decide) (fun c_2 => ?_) (fun c_2 => ?_)
  · replace hw := hw.1 c_2
    refine lv_ldc2 (v := (-14 : Int64)) hx hb hown (hts _ (List.mem_of_getElem? (i := 2) rfl)) dX5_route_21 ?_
    exact hret 24 (-14 : Int64) (vmHN, (0 : Int32), vmT, vmM, vmK, vmF, vmX, vmH, vmRow) _ _ _ dX5_route_24 hw hP hD hS
  · replace hw := hw.2 c_2
    refine lv_aload_n hx hb dX5_route_13 rfl (lv_at hl 0 rfl) ?_
    refine lv_iload_n hx hb dX5_route_14 rfl (lv_at hl 2 rfl) ?_
    refine kc_Vi (As := [.int x2]) (rest := []) (wc := wdM cI cJ cZ aM aM1 aM2 aM3 aM4 aM6 aM8 aM9 aM10 aM11 aM12 aM13 aM15 vmN vmR vmBN vmHN (0 : Int32) vmLo vmHi vmC vmZ vmB vmT vmM vmK vmF vmX vmH vmRow) (wr := []) ⟨hx, hb, hml, hown, hts⟩ (cwV 1 hts gX5_route_X5_isNode rfl rfl rfl (by decide +kernel) ⟨Nat.le_of_ble_eq_true rfl, Nat.le_of_ble_eq_true rfl⟩) hK hN hA hP hD hS [0, 1, 2, 3, 4, 5, 6, 7, 8, 9, 10, 11, 12] [] rfl rfl (by decide) (by decide) (by decide) 0 rfl rfl (k_X5_isNode l G cI cJ cZ aM aM1 aM2 aM3 aM4 aM6 aM8 aM9 aM10 aM11 aM12 aM13 aM15 _ N vmN vmR vmBN vmHN (0 : Int32) vmLo vmHi vmC vmZ vmB vmT vmM vmK vmF vmX vmH vmRow x2 _ hw) rfl hl.1 rfl (Nat.le_of_ble_eq_true rfl) dX5_route_15 ⟨Nat.le_of_ble_eq_true rfl, Nat.le_of_ble_eq_true rfl⟩ (fun r_3 u_ H locs hw hP hD hS => ?_)
    replace hP : va_P G vwCl (wdM cI cJ cZ aM aM1 aM2 aM3 aM4 aM6 aM8 aM9 aM10 aM11 aM12 aM13 aM15 vmN vmR vmBN vmHN (0 : Int32) vmLo vmHi vmC vmZ vmB vmT vmM vmK vmF vmX vmH vmRow) H := hP.sub [0, 1, 2, 3, 4, 5, 6, 7, 8, 9, 10, 11, 12] rfl
    replace hD : va_D A (wdM cI cJ cZ aM aM1 aM2 aM3 aM4 aM6 aM8 aM9 aM10 aM11 aM12 aM13 aM15 vmN vmR vmBN vmHN (0 : Int32) vmLo vmHi vmC vmZ vmB vmT vmM vmK vmF vmX vmH vmRow) := hD.sub [0, 1, 2, 3, 4, 5, 6, 7, 8, 9, 10, 11, 12] (by decide) rfl
    refine lv_if_ne (tgt := 25) hx hb dX5_route_18 (by decide) (fun c_4 => ?_) (fun c_4 => ?_)
    · replace hw := hw.1 c_4
      refine lv_iload_n hx hb dX5_route_25 rfl (lv_at hl 1 rfl) ?_
      refine lv_iload_n hx hb dX5_route_26 rfl (lv_at hl 2 rfl) ?_
      refine lv_icmp_ne (tgt := 44) hx hb dX5_route_27 (by decide) (fun c_5 => ?_) (fun c_5 => ?_)
      · replace hw := hw.1 c_5
        refine lv_aload_n hx hb dX5_route_44 rfl (lv_at hl 0 rfl) ?_
        refine lv_iload_n hx hb dX5_route_45 rfl (lv_at hl 2 rfl) ?_
        refine kc_Vv (As := [.int x2]) (rest := []) (wc := wdM cI cJ cZ aM aM1 aM2 aM3 aM4 aM6 aM8 aM9 aM10 aM11 aM12 aM13 aM15 vmN vmR vmBN vmHN (0 : Int32) vmLo vmHi vmC vmZ vmB vmT vmM vmK vmF vmX vmH vmRow) (wr := []) ⟨hx, hb, hml, hown, hts⟩ (cwV 1 hts gX5_route_X5_spread rfl rfl rfl (by decide +kernel) ⟨Nat.le_of_ble_eq_true rfl, Nat.le_of_ble_eq_true rfl⟩) hK hN hA hP hD hS [0, 1, 2, 3, 4, 5, 6, 7, 8, 9, 10, 11, 12] [] rfl rfl (by decide) (by decide) (by decide) 0 rfl rfl (k_X5_spread l G cI cJ cZ aM aM1 aM2 aM3 aM4 aM6 aM8 aM9 aM10 aM11 aM12 aM13 aM15 _ N vmN vmR vmBN vmHN (0 : Int32) vmLo vmHi vmC vmZ vmB vmT vmM vmK vmF vmX vmH vmRow x2 _ hw) rfl hl.1 rfl (Nat.le_of_ble_eq_true rfl) dX5_route_46 ⟨Nat.le_of_ble_eq_true rfl, Nat.le_of_ble_eq_true rfl⟩ (fun u_ H locs hw hP hD hS => ?_)
        obtain ⟨vmHN_7, vmT_8, vmM_9, vmK_10, vmF_11, vmX_12, vmH_13⟩ := u_
        replace hP : va_P G vwCl (wdM cI cJ cZ aM aM1 aM2 aM3 aM4 aM6 aM8 aM9 aM10 aM11 aM12 aM13 aM15 vmN vmR vmBN vmHN_7 (0 : Int32) vmLo vmHi vmC vmZ vmB vmT_8 vmM_9 vmK_10 vmF_11 vmX_12 vmH_13 vmRow) H := hP.sub [0, 1, 2, 3, 4, 5, 6, 7, 8, 9, 10, 11, 12] rfl
        replace hD : va_D A (wdM cI cJ cZ aM aM1 aM2 aM3 aM4 aM6 aM8 aM9 aM10 aM11 aM12 aM13 aM15 vmN vmR vmBN vmHN_7 (0 : Int32) vmLo vmHi vmC vmZ vmB vmT_8 vmM_9 vmK_10 vmF_11 vmX_12 vmH_13 vmRow) := hD.sub [0, 1, 2, 3, 4, 5, 6, 7, 8, 9, 10, 11, 12] (by decide) rfl
        refine lv_iconst (v := (-1 : Int32)) hx hb dX5_route_49 (by decide) ?_
        refine lv_istore_n (lv' := [(3, .int (-1 : Int32)), (0, .ref aM), (1, .int x1), (2, .int x2)]) hx hb dX5_route_50 rfl hl (by decide) rfl (fun ls hl => ?_)
        refine lv_aload_n hx hb dX5_route_51 rfl (lv_at hl 1 rfl) ?_
        refine va_get (D := G) (ci := 5) (v := .ref aM11) (C := RX5) (T := TX5) (N := 17) hx hb hts (fun _ h => List.mem_cons_of_mem _ (List.mem_append_right _ h)) hown hK hP 0 rfl rfl 11 (by decide) (hts _ (List.mem_of_getElem? (i := 4) rfl)) (fun _ h9 => h9) rfl dX5_route_52 ?_
        refine lv_iload_n hx hb dX5_route_55 rfl (lv_at hl 2 rfl) ?_
        have h_14 := hw.1
        replace hw := hw.2
        refine va_iald hx hb hK hP 9 0 rfl rfl h_14 dX5_route_56 ?_
        refine lv_topi (fun x4_15 e_16 => ?_)
        replace hw := hw x4_15 e_16
        refine lv_istore (lv' := [(4, .int x4_15), (3, .int (-1 : Int32)), (0, .ref aM), (1, .int x1), (2, .int x2)]) hx hb dX5_route_57 hl (by decide) rfl (fun ls hl => ?_)
        replace hl : lv_has ls 8 [(0, .ref aM), (1, .int x1), (2, .int x2), (3, .int (-1 : Int32)), (4, .int x4_15)] := lv_sub hl [2, 3, 4, 1, 0] rfl
        exact b59 N vmHN_7 (0 : Int32) vmT_8 vmM_9 vmK_10 vmF_11 vmX_12 vmH_13 vmRow (-1 : Int32) x4_15 _ _ _ hw hP hD hS hl
      · replace hw := hw.2 c_5
        refine lv_aload_n hx hb dX5_route_30 rfl (lv_at hl 0 rfl) ?_
        refine va_get (D := G) (ci := 5) (v := .ref aM15) (C := RX5) (T := TX5) (N := 17) hx hb hts (fun _ h => List.mem_cons_of_mem _ (List.mem_append_right _ h)) hown hK hP 0 rfl rfl 15 (by decide) (hts _ (List.mem_of_getElem? (i := 3) rfl)) (fun _ h9 => h9) rfl dX5_route_31 ?_
        refine lv_iconst (v := (0 : Int32)) hx hb dX5_route_34 (by decide) ?_
        refine lv_iload_n hx hb dX5_route_35 rfl (lv_at hl 1 rfl) ?_
        have h_50 := hw.1
        replace hw := hw.2
        refine va_iast hx hb hK hP hD hS 12 0 rfl rfl h_50 dX5_route_36 (fun H locs hP hD hS => ?_)
        replace hP : va_P G vwCl (wdM cI cJ cZ aM aM1 aM2 aM3 aM4 aM6 aM8 aM9 aM10 aM11 aM12 aM13 aM15 vmN vmR vmBN vmHN (0 : Int32) vmLo vmHi vmC vmZ vmB vmT vmM vmK vmF vmX vmH (upd vmRow (0 : Int32).toNatClampNeg x1)) H := hP
        replace hD : va_D A (wdM cI cJ cZ aM aM1 aM2 aM3 aM4 aM6 aM8 aM9 aM10 aM11 aM12 aM13 aM15 vmN vmR vmBN vmHN (0 : Int32) vmLo vmHi vmC vmZ vmB vmT vmM vmK vmF vmX vmH (upd vmRow (0 : Int32).toNatClampNeg x1)) := hD
        refine lv_aload_n hx hb dX5_route_37 rfl (lv_at hl 0 rfl) ?_
        refine lv_iconst (v := (1 : Int32)) hx hb dX5_route_38 (by decide) ?_
        refine va_put (D := G) (ci := 5) (v := .int (1 : Int32)) (ty := .int) (C := RX5) (T := TX5) (N := 17) hx hb hts (fun _ h => List.mem_cons_of_mem _ (List.mem_append_right _ h)) tyX5 tyX5_ok nmX5 hown hK hP hD hS 0 rfl rfl 16 (by decide) (hts _ (List.mem_of_getElem? (i := 1) rfl)) (fun _ h9 => h9) rfl (by decide +kernel) rfl rfl (Nat.le_of_ble_eq_true rfl) dX5_route_39 (fun H locs hP hD hS => ?_)
        replace hP : va_P G vwCl (wdM cI cJ cZ aM aM1 aM2 aM3 aM4 aM6 aM8 aM9 aM10 aM11 aM12 aM13 aM15 vmN vmR vmBN vmHN (1 : Int32) vmLo vmHi vmC vmZ vmB vmT vmM vmK vmF vmX vmH (upd vmRow (0 : Int32).toNatClampNeg x1)) H := hP
        replace hD : va_D A (wdM cI cJ cZ aM aM1 aM2 aM3 aM4 aM6 aM8 aM9 aM10 aM11 aM12 aM13 aM15 vmN vmR vmBN vmHN (1 : Int32) vmLo vmHi vmC vmZ vmB vmT vmM vmK vmF vmX vmH (upd vmRow (0 : Int32).toNatClampNeg x1)) := hD
        refine lv_lconst (v := (0 : Int64)) hx hb dX5_route_42 (by decide) ?_
        exact hret 43 (0 : Int64) (vmHN, (1 : Int32), vmT, vmM, vmK, vmF, vmX, vmH, (upd vmRow (0 : Int32).toNatClampNeg x1)) _ _ _ dX5_route_43 hw hP hD hS
    · replace hw := hw.2 c_4
      refine lv_ldc2 (v := (-14 : Int64)) hx hb hown (hts _ (List.mem_of_getElem? (i := 2) rfl)) dX5_route_21 ?_
      exact hret 24 (-14 : Int64) (vmHN, (0 : Int32), vmT, vmM, vmK, vmF, vmX, vmH, vmRow) _ _ _ dX5_route_24 hw hP hD hS
