set_option maxHeartbeats 4000000 in
set_option maxRecDepth 100000 in
theorem lw_c84 {p : Program} {e : Env} {s : State} {m : MethodId} {below : List Frame} {meth : Method} {c : Code} (l : Launch) {b L : Nat} {xs : Nat → Int32} (C0 : lw_At p s m meth c b L xs) (G : va_G) (cI cJ cZ : ClassId) (hK : va_K G vwCl (tyL cI cJ cZ) s) (hN : nw_ok s) (aX aY aS aR aE aC aF aT aK aH aW aA aQ aU aM aM1 aM2 aM3 aM4 aM6 aM8 aM9 aM10 aM11 aM12 aM13 aM15 : Nat) (N n : Nat) (k18 : Int32 → (Nat → Int32) → Int32 → Int32 → Int32 → (Nat → Int32) → (Nat → Int32) → (Nat → Int32) → Int32 → (Nat → Int32) → Int32 → (Nat → Int64) → (Nat → Int32) → (Nat → Int32) → (Nat → Int32) → Int32 → Int32 → Int32 → Int32 → Int32 → (Nat → Int32) → (Nat → Int32) → (Nat → Int32) → (Nat → Int32) → (Nat → Int32) → (Nat → Int64) → (Nat → Int32) → (Nat → Int32) → (Nat → Int32) → (Nat → Int32) → (Nat → Int32) → (Nat → Int32) → Int32 → Prop) (ih : ∀ (vxL : Int32) (vxY : Nat → Int32) (vsB : Int32) (vrN : Int32) (vrA : Int32) (vrE : Nat → Int32) (vrC : Nat → Int32) (vrF : Nat → Int32) (vtN : Int32) (vtK : Nat → Int32) (vhN : Int32) (vhW : Nat → Int64) (vhA : Nat → Int32) (vsQ : Nat → Int32) (vsU : Nat → Int32) (vmN : Int32) (vmR : Int32) (vmBN : Int32) (vmHN : Int32) (vmL : Int32) (vmLo : Nat → Int32) (vmHi : Nat → Int32) (vmC : Nat → Int32) (vmZ : Nat → Int32) (vmB : Nat → Int32) (vmT : Nat → Int64) (vmM : Nat → Int32) (vmK : Nat → Int32) (vmF : Nat → Int32) (vmX : Nat → Int32) (vmH : Nat → Int32) (vmRow : Nat → Int32) (x3 : Int32) (H : Heap) (locs : List Loc) (cl sl : Nat) (ls : Array Slot), k18 vxL vxY vsB vrN vrA vrE vrC vrF vtN vtK vhN vhW vhA vsQ vsU vmN vmR vmBN vmHN vmL vmLo vmHi vmC vmZ vmB vmT vmM vmK vmF vmX vmH vmRow x3 → cl + n ≤ 1000 ∧ sl + 300 * n ≤ 300000 → va_P G vwCl (wdL cI cJ cZ aX aY aS aR aE aC aF aT aK aH aW aA aQ aU aM aM1 aM2 aM3 aM4 aM6 aM8 aM9 aM10 aM11 aM12 aM13 aM15 vxL vxY vsB vrN vrA vrE vrC vrF vtN vtK vhN vhW vhA vsQ vsU vmN vmR vmBN vmHN vmL vmLo vmHi vmC vmZ vmB vmT vmM vmK vmF vmX vmH vmRow) H → va_D (fun q : Nat => s.heap.size ≤ q) (wdL cI cJ cZ aX aY aS aR aE aC aF aT aK aH aW aA aQ aU aM aM1 aM2 aM3 aM4 aM6 aM8 aM9 aM10 aM11 aM12 aM13 aM15 vxL vxY vsB vrN vrA vrE vrC vrF vtN vtK vhN vhW vhA vsQ vsU vmN vmR vmBN vmHN vmL vmLo vmHi vmC vmZ vmB vmT vmM vmK vmF vmX vmH vmRow) → va_S (fun q : Nat => s.heap.size ≤ q) s.heap H locs → lv_has ls 4 [(0, .ref b), (1, .ref aX), (2, .ref aM), (3, .int x3)] → W p l e room_1 s m #[Value.ref b] below meth c H locs cl sl (lw_Z below #[Value.ref b] s) (F0 m 18 ls [])) (vxL : Int32) (vxY : Nat → Int32) (vsB : Int32) (vrN : Int32) (vrA : Int32) (vrE : Nat → Int32) (vrC : Nat → Int32) (vrF : Nat → Int32) (vtN : Int32) (vtK : Nat → Int32) (vhN : Int32) (vhW : Nat → Int64) (vhA : Nat → Int32) (vsQ : Nat → Int32) (vsU : Nat → Int32) (vmN : Int32) (vmR : Int32) (vmBN : Int32) (vmHN : Int32) (vmL : Int32) (vmLo : Nat → Int32) (vmHi : Nat → Int32) (vmC : Nat → Int32) (vmZ : Nat → Int32) (vmB : Nat → Int32) (vmT : Nat → Int64) (vmM : Nat → Int32) (vmK : Nat → Int32) (vmF : Nat → Int32) (vmX : Nat → Int32) (vmH : Nat → Int32) (vmRow : Nat → Int32) (x3 : Int32) (H : Heap) (locs : List Loc) (cl sl : Nat) (ls : Array Slot) (hw : w_L_c84 N L xs k18 vxL vxY vsB vrN vrA vrE vrC vrF vtN vtK vhN vhW vhA vsQ vsU vmN vmR vmBN vmHN vmL vmLo vmHi vmC vmZ vmB vmT vmM vmK vmF vmX vmH vmRow x3) (hcs : cl + n + 1 ≤ 1000 ∧ sl + 300 * n + 300 ≤ 300000) (hP : va_P G vwCl (wdL cI cJ cZ aX aY aS aR aE aC aF aT aK aH aW aA aQ aU aM aM1 aM2 aM3 aM4 aM6 aM8 aM9 aM10 aM11 aM12 aM13 aM15 vxL vxY vsB vrN vrA vrE vrC vrF vtN vtK vhN vhW vhA vsQ vsU vmN vmR vmBN vmHN vmL vmLo vmHi vmC vmZ vmB vmT vmM vmK vmF vmX vmH vmRow) H) (hD : va_D (fun q : Nat => s.heap.size ≤ q) (wdL cI cJ cZ aX aY aS aR aE aC aF aT aK aH aW aA aQ aU aM aM1 aM2 aM3 aM4 aM6 aM8 aM9 aM10 aM11 aM12 aM13 aM15 vxL vxY vsB vrN vrA vrE vrC vrF vtN vtK vhN vhW vhA vsQ vsU vmN vmR vmBN vmHN vmL vmLo vmHi vmC vmZ vmB vmT vmM vmK vmF vmX vmH vmRow)) (hS : va_S (fun q : Nat => s.heap.size ≤ q) s.heap H locs) (hl : lv_has ls 4 [(0, .ref b), (1, .ref aX), (2, .ref aM), (3, .int x3)]) : W p l e room_1 s m #[Value.ref b] below meth c H locs cl sl (lw_Z below #[Value.ref b] s) (F0 m 84 ls []) := by
  obtain ⟨hx, hb, hr, hml, hown, hts, hX, hbl, hlocks, hgv⟩ := id C0
  have hA : ∀ q : Nat, s.heap.size ≤ q → (fun q : Nat => s.heap.size ≤ q) q := fun _ h => h
  have hbA : ¬ (fun q : Nat => s.heap.size ≤ q) b := Nat.not_le.mpr hbl
  have hts2 : ∀ w ∈ wsL_law, w.before #[Value.ref b] s = true := fun w h => hts w (wsL_law_in w h)
  unfold w_L_c84 at hw
  refine lv_aload_n hx hb dL_law_84 rfl (lv_at hl 1 rfl) ?_
  refine lv_aload_n hx hb dL_law_85 rfl (lv_at hl 0 rfl) ?_
  refine lv_iload_n hx hb dL_law_86 rfl (lv_at hl 3 rfl) ?_
  refine lv_iconst (v := (1 : Int32)) hx hb dL_law_87 (by decide) ?_
  refine lv_iadd hx hb dL_law_88 ?_
  have h_1 := hw.1
  replace hw := hw.2
  refine va_sld hx hb hX hbl hbA hS h_1 dL_law_89 ?_
  refine kc_Vi (As := [.int (xs (x3 + (1 : Int32)).toNatClampNeg)]) (rest := []) (wc := wdX cI cJ cZ aX aY aS aR aE aC aF aT aK aH aW aA aQ aU vxL vxY vsB vrN vrA vrE vrC vrF vtN vtK vhN vhW vhA vsQ vsU) (wr := wdM cI cJ cZ aM aM1 aM2 aM3 aM4 aM6 aM8 aM9 aM10 aM11 aM12 aM13 aM15 vmN vmR vmBN vmHN vmL vmLo vmHi vmC vmZ vmB vmT vmM vmK vmF vmX vmH vmRow) ⟨hx, hb, hml, hown, hts2⟩ (cwV 1 hts2 gL_law_X4_size rfl rfl rfl (by decide +kernel) ⟨Nat.le_of_ble_eq_true rfl, Nat.le_of_ble_eq_true rfl⟩) hK hN hA hP hD hS [0, 1, 2, 3, 4, 5, 6, 7, 8, 9, 10, 11, 12, 13] [14, 15, 16, 17, 18, 19, 20, 21, 22, 23, 24, 25, 26] rfl rfl (by decide) (by decide) (by decide) 0 rfl rfl (k_X4_size l G cI cJ cZ aX aY aS aR aE aC aF aT aK aH aW aA aQ aU _ N vxL vxY vsB vrN vrA vrE vrC vrF vtN vtK vhN vhW vhA vsQ vsU (xs (x3 + (1 : Int32)).toNatClampNeg) _ hw) rfl hl.1 rfl (Nat.le_of_ble_eq_true rfl) dL_law_90 ⟨by show cl + 0 ≤ 600000; omega, by show sl + 0 ≤ 7302250; omega⟩ (fun r_2 u_ H locs hw hP hD hS => ?_)
  obtain ⟨vxL_3, vrN_4, vrA_5, vrF_6, vtN_7⟩ := u_
  replace hP : va_P G vwCl (wdL cI cJ cZ aX aY aS aR aE aC aF aT aK aH aW aA aQ aU aM aM1 aM2 aM3 aM4 aM6 aM8 aM9 aM10 aM11 aM12 aM13 aM15 vxL_3 vxY vsB vrN_4 vrA_5 vrE vrC vrF_6 vtN_7 vtK vhN vhW vhA vsQ vsU vmN vmR vmBN vmHN vmL vmLo vmHi vmC vmZ vmB vmT vmM vmK vmF vmX vmH vmRow) H := hP.sub [13, 14, 15, 16, 17, 18, 19, 20, 21, 22, 23, 24, 25, 26, 0, 1, 2, 3, 4, 5, 6, 7, 8, 9, 10, 11, 12] rfl
  replace hD : va_D (fun q : Nat => s.heap.size ≤ q) (wdL cI cJ cZ aX aY aS aR aE aC aF aT aK aH aW aA aQ aU aM aM1 aM2 aM3 aM4 aM6 aM8 aM9 aM10 aM11 aM12 aM13 aM15 vxL_3 vxY vsB vrN_4 vrA_5 vrE vrC vrF_6 vtN_7 vtK vhN vhW vhA vsQ vsU vmN vmR vmBN vmHN vmL vmLo vmHi vmC vmZ vmB vmT vmM vmK vmF vmX vmH vmRow) := hD.sub [13, 14, 15, 16, 17, 18, 19, 20, 21, 22, 23, 24, 25, 26, 0, 1, 2, 3, 4, 5, 6, 7, 8, 9, 10, 11, 12] (by decide) rfl
  refine lv_aload_n hx hb dL_law_93 rfl (lv_at hl 2 rfl) ?_
  refine lv_aload_n hx hb dL_law_94 rfl (lv_at hl 0 rfl) ?_
  refine lv_iload_n hx hb dL_law_95 rfl (lv_at hl 3 rfl) ?_
  refine lv_iconst (v := (1 : Int32)) hx hb dL_law_96 (by decide) ?_
  refine lv_iadd hx hb dL_law_97 ?_
  refine va_sld hx hb hX hbl hbA hS h_1 dL_law_98 ?_
  refine kc_Vi (As := [.int (xs (x3 + (1 : Int32)).toNatClampNeg)]) (rest := [.int r_2]) (wc := wdM cI cJ cZ aM aM1 aM2 aM3 aM4 aM6 aM8 aM9 aM10 aM11 aM12 aM13 aM15 vmN vmR vmBN vmHN vmL vmLo vmHi vmC vmZ vmB vmT vmM vmK vmF vmX vmH vmRow) (wr := wdX cI cJ cZ aX aY aS aR aE aC aF aT aK aH aW aA aQ aU vxL_3 vxY vsB vrN_4 vrA_5 vrE vrC vrF_6 vtN_7 vtK vhN vhW vhA vsQ vsU) ⟨hx, hb, hml, hown, hts2⟩ (cwV 1 hts2 gL_law_X5_size rfl rfl rfl (by decide +kernel) ⟨Nat.le_of_ble_eq_true rfl, Nat.le_of_ble_eq_true rfl⟩) hK hN hA hP hD hS [14, 15, 16, 17, 18, 19, 20, 21, 22, 23, 24, 25, 26] [0, 1, 2, 3, 4, 5, 6, 7, 8, 9, 10, 11, 12, 13] rfl rfl (by decide) (by decide) (by decide) 0 rfl rfl (k_X5_size l G cI cJ cZ aM aM1 aM2 aM3 aM4 aM6 aM8 aM9 aM10 aM11 aM12 aM13 aM15 _ N vmN vmR vmBN vmHN vmL vmLo vmHi vmC vmZ vmB vmT vmM vmK vmF vmX vmH vmRow (xs (x3 + (1 : Int32)).toNatClampNeg) _ hw) rfl hl.1 rfl (Nat.le_of_ble_eq_true rfl) dL_law_99 ⟨by show cl + 0 + 0 ≤ 600000; omega, by show sl + 0 + 0 ≤ 7302250; omega⟩ (fun r_8 u_ H locs hw hP hD hS => ?_)
  obtain ⟨vmN_9, vmR_10, vmBN_11, vmL_12⟩ := u_
  replace hP : va_P G vwCl (wdL cI cJ cZ aX aY aS aR aE aC aF aT aK aH aW aA aQ aU aM aM1 aM2 aM3 aM4 aM6 aM8 aM9 aM10 aM11 aM12 aM13 aM15 vxL_3 vxY vsB vrN_4 vrA_5 vrE vrC vrF_6 vtN_7 vtK vhN vhW vhA vsQ vsU vmN_9 vmR_10 vmBN_11 vmHN vmL_12 vmLo vmHi vmC vmZ vmB vmT vmM vmK vmF vmX vmH vmRow) H := hP.sub [0, 1, 2, 3, 4, 5, 6, 7, 8, 9, 10, 11, 12, 13, 14, 15, 16, 17, 18, 19, 20, 21, 22, 23, 24, 25, 26] rfl
  replace hD : va_D (fun q : Nat => s.heap.size ≤ q) (wdL cI cJ cZ aX aY aS aR aE aC aF aT aK aH aW aA aQ aU aM aM1 aM2 aM3 aM4 aM6 aM8 aM9 aM10 aM11 aM12 aM13 aM15 vxL_3 vxY vsB vrN_4 vrA_5 vrE vrC vrF_6 vtN_7 vtK vhN vhW vhA vsQ vsU vmN_9 vmR_10 vmBN_11 vmHN vmL_12 vmLo vmHi vmC vmZ vmB vmT vmM vmK vmF vmX vmH vmRow) := hD.sub [0, 1, 2, 3, 4, 5, 6, 7, 8, 9, 10, 11, 12, 13, 14, 15, 16, 17, 18, 19, 20, 21, 22, 23, 24, 25, 26] (by decide) rfl
  refine lv_icmp_eq (tgt := 444) hx hb dL_law_102 (by decide) (fun c_13 => ?_) (fun c_13 => ?_)
  · replace hw := hw.1 c_13
    obtain ⟨x3_14, e_15⟩ : ∃ y : Int32, y = x3 + (5 : Int32) := ⟨_, rfl⟩
    replace hw := hw x3_14 e_15
    refine lv_iinc (v := x3_14) (lv' := [(3, .int x3_14), (0, .ref b), (1, .ref aX), (2, .ref aM)]) hx hb dL_law_444 hl (k := 3) rfl (by rw [e_15]; rfl) (by decide) rfl (fun ls hl => ?_)
    refine lv_goto (tgt := 18) hx hb dL_law_447 (by decide) ?_
    refine W.widen (k := cl + 1) (n := sl + 300) (by show cl + 0 + 0 ≤ _; omega) (by show sl + 0 + 0 ≤ _; omega) ?_
    exact ih vxL_3 vxY vsB vrN_4 vrA_5 vrE vrC vrF_6 vtN_7 vtK vhN vhW vhA vsQ vsU vmN_9 vmR_10 vmBN_11 vmHN vmL_12 vmLo vmHi vmC vmZ vmB vmT vmM vmK vmF vmX vmH vmRow x3_14 _ _ (cl + 1) (sl + 300) _ hw ⟨by omega, by omega⟩ hP hD hS (lv_sub hl [1, 2, 3, 0] rfl)
  · replace hw := hw.2 c_13
    refine lv_iconst (v := (0 : Int32)) hx hb dL_law_105 (by decide) ?_
    exact hw.elim
set_option maxHeartbeats 4000000 in
set_option maxRecDepth 100000 in
theorem lw_c107 {p : Program} {e : Env} {s : State} {m : MethodId} {below : List Frame} {meth : Method} {c : Code} (l : Launch) {b L : Nat} {xs : Nat → Int32} (C0 : lw_At p s m meth c b L xs) (G : va_G) (cI cJ cZ : ClassId) (hK : va_K G vwCl (tyL cI cJ cZ) s) (hN : nw_ok s) (aX aY aS aR aE aC aF aT aK aH aW aA aQ aU aM aM1 aM2 aM3 aM4 aM6 aM8 aM9 aM10 aM11 aM12 aM13 aM15 : Nat) (N n : Nat) (k18 : Int32 → (Nat → Int32) → Int32 → Int32 → Int32 → (Nat → Int32) → (Nat → Int32) → (Nat → Int32) → Int32 → (Nat → Int32) → Int32 → (Nat → Int64) → (Nat → Int32) → (Nat → Int32) → (Nat → Int32) → Int32 → Int32 → Int32 → Int32 → Int32 → (Nat → Int32) → (Nat → Int32) → (Nat → Int32) → (Nat → Int32) → (Nat → Int32) → (Nat → Int64) → (Nat → Int32) → (Nat → Int32) → (Nat → Int32) → (Nat → Int32) → (Nat → Int32) → (Nat → Int32) → Int32 → Prop) (ih : ∀ (vxL : Int32) (vxY : Nat → Int32) (vsB : Int32) (vrN : Int32) (vrA : Int32) (vrE : Nat → Int32) (vrC : Nat → Int32) (vrF : Nat → Int32) (vtN : Int32) (vtK : Nat → Int32) (vhN : Int32) (vhW : Nat → Int64) (vhA : Nat → Int32) (vsQ : Nat → Int32) (vsU : Nat → Int32) (vmN : Int32) (vmR : Int32) (vmBN : Int32) (vmHN : Int32) (vmL : Int32) (vmLo : Nat → Int32) (vmHi : Nat → Int32) (vmC : Nat → Int32) (vmZ : Nat → Int32) (vmB : Nat → Int32) (vmT : Nat → Int64) (vmM : Nat → Int32) (vmK : Nat → Int32) (vmF : Nat → Int32) (vmX : Nat → Int32) (vmH : Nat → Int32) (vmRow : Nat → Int32) (x3 : Int32) (H : Heap) (locs : List Loc) (cl sl : Nat) (ls : Array Slot), k18 vxL vxY vsB vrN vrA vrE vrC vrF vtN vtK vhN vhW vhA vsQ vsU vmN vmR vmBN vmHN vmL vmLo vmHi vmC vmZ vmB vmT vmM vmK vmF vmX vmH vmRow x3 → cl + n ≤ 1000 ∧ sl + 300 * n ≤ 300000 → va_P G vwCl (wdL cI cJ cZ aX aY aS aR aE aC aF aT aK aH aW aA aQ aU aM aM1 aM2 aM3 aM4 aM6 aM8 aM9 aM10 aM11 aM12 aM13 aM15 vxL vxY vsB vrN vrA vrE vrC vrF vtN vtK vhN vhW vhA vsQ vsU vmN vmR vmBN vmHN vmL vmLo vmHi vmC vmZ vmB vmT vmM vmK vmF vmX vmH vmRow) H → va_D (fun q : Nat => s.heap.size ≤ q) (wdL cI cJ cZ aX aY aS aR aE aC aF aT aK aH aW aA aQ aU aM aM1 aM2 aM3 aM4 aM6 aM8 aM9 aM10 aM11 aM12 aM13 aM15 vxL vxY vsB vrN vrA vrE vrC vrF vtN vtK vhN vhW vhA vsQ vsU vmN vmR vmBN vmHN vmL vmLo vmHi vmC vmZ vmB vmT vmM vmK vmF vmX vmH vmRow) → va_S (fun q : Nat => s.heap.size ≤ q) s.heap H locs → lv_has ls 4 [(0, .ref b), (1, .ref aX), (2, .ref aM), (3, .int x3)] → W p l e room_1 s m #[Value.ref b] below meth c H locs cl sl (lw_Z below #[Value.ref b] s) (F0 m 18 ls [])) (vxL : Int32) (vxY : Nat → Int32) (vsB : Int32) (vrN : Int32) (vrA : Int32) (vrE : Nat → Int32) (vrC : Nat → Int32) (vrF : Nat → Int32) (vtN : Int32) (vtK : Nat → Int32) (vhN : Int32) (vhW : Nat → Int64) (vhA : Nat → Int32) (vsQ : Nat → Int32) (vsU : Nat → Int32) (vmN : Int32) (vmR : Int32) (vmBN : Int32) (vmHN : Int32) (vmL : Int32) (vmLo : Nat → Int32) (vmHi : Nat → Int32) (vmC : Nat → Int32) (vmZ : Nat → Int32) (vmB : Nat → Int32) (vmT : Nat → Int64) (vmM : Nat → Int32) (vmK : Nat → Int32) (vmF : Nat → Int32) (vmX : Nat → Int32) (vmH : Nat → Int32) (vmRow : Nat → Int32) (x3 : Int32) (H : Heap) (locs : List Loc) (cl sl : Nat) (ls : Array Slot) (hw : w_L_c107 N L xs k18 vxL vxY vsB vrN vrA vrE vrC vrF vtN vtK vhN vhW vhA vsQ vsU vmN vmR vmBN vmHN vmL vmLo vmHi vmC vmZ vmB vmT vmM vmK vmF vmX vmH vmRow x3) (hcs : cl + n + 1 ≤ 1000 ∧ sl + 300 * n + 300 ≤ 300000) (hP : va_P G vwCl (wdL cI cJ cZ aX aY aS aR aE aC aF aT aK aH aW aA aQ aU aM aM1 aM2 aM3 aM4 aM6 aM8 aM9 aM10 aM11 aM12 aM13 aM15 vxL vxY vsB vrN vrA vrE vrC vrF vtN vtK vhN vhW vhA vsQ vsU vmN vmR vmBN vmHN vmL vmLo vmHi vmC vmZ vmB vmT vmM vmK vmF vmX vmH vmRow) H) (hD : va_D (fun q : Nat => s.heap.size ≤ q) (wdL cI cJ cZ aX aY aS aR aE aC aF aT aK aH aW aA aQ aU aM aM1 aM2 aM3 aM4 aM6 aM8 aM9 aM10 aM11 aM12 aM13 aM15 vxL vxY vsB vrN vrA vrE vrC vrF vtN vtK vhN vhW vhA vsQ vsU vmN vmR vmBN vmHN vmL vmLo vmHi vmC vmZ vmB vmT vmM vmK vmF vmX vmH vmRow)) (hS : va_S (fun q : Nat => s.heap.size ≤ q) s.heap H locs) (hl : lv_has ls 4 [(0, .ref b), (1, .ref aX), (2, .ref aM), (3, .int x3)]) : W p l e room_1 s m #[Value.ref b] below meth c H locs cl sl (lw_Z below #[Value.ref b] s) (F0 m 107 ls []) := by
  obtain ⟨hx, hb, hr, hml, hown, hts, hX, hbl, hlocks, hgv⟩ := id C0
  have hA : ∀ q : Nat, s.heap.size ≤ q → (fun q : Nat => s.heap.size ≤ q) q := fun _ h => h
  have hbA : ¬ (fun q : Nat => s.heap.size ≤ q) b := Nat.not_le.mpr hbl
  have hts2 : ∀ w ∈ wsL_law, w.before #[Value.ref b] s = true := fun w h => hts w (wsL_law_in w h)
  unfold w_L_c107 at hw
  refine lv_aload_n hx hb dL_law_107 rfl (lv_at hl 1 rfl) ?_
  refine lv_aload_n hx hb dL_law_108 rfl (lv_at hl 0 rfl) ?_
  refine lv_iload_n hx hb dL_law_109 rfl (lv_at hl 3 rfl) ?_
  refine lv_iconst (v := (1 : Int32)) hx hb dL_law_110 (by decide) ?_
  refine lv_iadd hx hb dL_law_111 ?_
  have h_1 := hw.1
  replace hw := hw.2
  refine va_sld hx hb hX hbl hbA hS h_1 dL_law_112 ?_
  refine lv_aload_n hx hb dL_law_113 rfl (lv_at hl 0 rfl) ?_
  refine lv_iload_n hx hb dL_law_114 rfl (lv_at hl 3 rfl) ?_
  refine lv_iconst (v := (2 : Int32)) hx hb dL_law_115 (by decide) ?_
  refine lv_iadd hx hb dL_law_116 ?_
  have h_2 := hw.1
  replace hw := hw.2
  refine va_sld hx hb hX hbl hbA hS h_2 dL_law_117 ?_
  refine lv_aload_n hx hb dL_law_118 rfl (lv_at hl 0 rfl) ?_
  refine lv_iload_n hx hb dL_law_119 rfl (lv_at hl 3 rfl) ?_
  refine lv_iconst (v := (3 : Int32)) hx hb dL_law_120 (by decide) ?_
  refine lv_iadd hx hb dL_law_121 ?_
  have h_3 := hw.1
  replace hw := hw.2
  refine va_sld hx hb hX hbl hbA hS h_3 dL_law_122 ?_
  refine kc_Vi (As := [.int (xs (x3 + (1 : Int32)).toNatClampNeg), .int (xs (x3 + (2 : Int32)).toNatClampNeg), .int (xs (x3 + (3 : Int32)).toNatClampNeg)]) (rest := []) (wc := wdX cI cJ cZ aX aY aS aR aE aC aF aT aK aH aW aA aQ aU vxL vxY vsB vrN vrA vrE vrC vrF vtN vtK vhN vhW vhA vsQ vsU) (wr := wdM cI cJ cZ aM aM1 aM2 aM3 aM4 aM6 aM8 aM9 aM10 aM11 aM12 aM13 aM15 vmN vmR vmBN vmHN vmL vmLo vmHi vmC vmZ vmB vmT vmM vmK vmF vmX vmH vmRow) ⟨hx, hb, hml, hown, hts2⟩ (cwV 3 hts2 gL_law_X4_road rfl rfl rfl (by decide +kernel) ⟨Nat.le_of_ble_eq_true rfl, Nat.le_of_ble_eq_true rfl⟩) hK hN hA hP hD hS [0, 1, 2, 3, 4, 5, 6, 7, 8, 9, 10, 11, 12, 13] [14, 15, 16, 17, 18, 19, 20, 21, 22, 23, 24, 25, 26] rfl rfl (by decide) (by decide) (by decide) 0 rfl rfl (k_X4_road l G cI cJ cZ aX aY aS aR aE aC aF aT aK aH aW aA aQ aU _ N vxL vxY vsB vrN vrA vrE vrC vrF vtN vtK vhN vhW vhA vsQ vsU (xs (x3 + (1 : Int32)).toNatClampNeg) (xs (x3 + (2 : Int32)).toNatClampNeg) (xs (x3 + (3 : Int32)).toNatClampNeg) _ hw) rfl hl.1 rfl (Nat.le_of_ble_eq_true rfl) dL_law_123 ⟨by show cl + 0 ≤ 600000; omega, by show sl + 0 ≤ 7302250; omega⟩ (fun r_4 u_ H locs hw hP hD hS => ?_)
  obtain ⟨vrA_5, vrE_6, vrC_7, vrF_8⟩ := u_
  replace hP : va_P G vwCl (wdL cI cJ cZ aX aY aS aR aE aC aF aT aK aH aW aA aQ aU aM aM1 aM2 aM3 aM4 aM6 aM8 aM9 aM10 aM11 aM12 aM13 aM15 vxL vxY vsB vrN vrA_5 vrE_6 vrC_7 vrF_8 vtN vtK vhN vhW vhA vsQ vsU vmN vmR vmBN vmHN vmL vmLo vmHi vmC vmZ vmB vmT vmM vmK vmF vmX vmH vmRow) H := hP.sub [13, 14, 15, 16, 17, 18, 19, 20, 21, 22, 23, 24, 25, 26, 0, 1, 2, 3, 4, 5, 6, 7, 8, 9, 10, 11, 12] rfl
  replace hD : va_D (fun q : Nat => s.heap.size ≤ q) (wdL cI cJ cZ aX aY aS aR aE aC aF aT aK aH aW aA aQ aU aM aM1 aM2 aM3 aM4 aM6 aM8 aM9 aM10 aM11 aM12 aM13 aM15 vxL vxY vsB vrN vrA_5 vrE_6 vrC_7 vrF_8 vtN vtK vhN vhW vhA vsQ vsU vmN vmR vmBN vmHN vmL vmLo vmHi vmC vmZ vmB vmT vmM vmK vmF vmX vmH vmRow) := hD.sub [13, 14, 15, 16, 17, 18, 19, 20, 21, 22, 23, 24, 25, 26, 0, 1, 2, 3, 4, 5, 6, 7, 8, 9, 10, 11, 12] (by decide) rfl
  refine lv_aload_n hx hb dL_law_126 rfl (lv_at hl 2 rfl) ?_
  refine lv_aload_n hx hb dL_law_127 rfl (lv_at hl 0 rfl) ?_
  refine lv_iload_n hx hb dL_law_128 rfl (lv_at hl 3 rfl) ?_
  refine lv_iconst (v := (1 : Int32)) hx hb dL_law_129 (by decide) ?_
  refine lv_iadd hx hb dL_law_130 ?_
  refine va_sld hx hb hX hbl hbA hS h_1 dL_law_131 ?_
  refine lv_aload_n hx hb dL_law_132 rfl (lv_at hl 0 rfl) ?_
  refine lv_iload_n hx hb dL_law_133 rfl (lv_at hl 3 rfl) ?_
  refine lv_iconst (v := (2 : Int32)) hx hb dL_law_134 (by decide) ?_
  refine lv_iadd hx hb dL_law_135 ?_
  refine va_sld hx hb hX hbl hbA hS h_2 dL_law_136 ?_
  refine lv_aload_n hx hb dL_law_137 rfl (lv_at hl 0 rfl) ?_
  refine lv_iload_n hx hb dL_law_138 rfl (lv_at hl 3 rfl) ?_
  refine lv_iconst (v := (3 : Int32)) hx hb dL_law_139 (by decide) ?_
  refine lv_iadd hx hb dL_law_140 ?_
  refine va_sld hx hb hX hbl hbA hS h_3 dL_law_141 ?_
  refine kc_Vi (As := [.int (xs (x3 + (1 : Int32)).toNatClampNeg), .int (xs (x3 + (2 : Int32)).toNatClampNeg), .int (xs (x3 + (3 : Int32)).toNatClampNeg)]) (rest := [.int r_4]) (wc := wdM cI cJ cZ aM aM1 aM2 aM3 aM4 aM6 aM8 aM9 aM10 aM11 aM12 aM13 aM15 vmN vmR vmBN vmHN vmL vmLo vmHi vmC vmZ vmB vmT vmM vmK vmF vmX vmH vmRow) (wr := wdX cI cJ cZ aX aY aS aR aE aC aF aT aK aH aW aA aQ aU vxL vxY vsB vrN vrA_5 vrE_6 vrC_7 vrF_8 vtN vtK vhN vhW vhA vsQ vsU) ⟨hx, hb, hml, hown, hts2⟩ (cwV 3 hts2 gL_law_X5_road rfl rfl rfl (by decide +kernel) ⟨Nat.le_of_ble_eq_true rfl, Nat.le_of_ble_eq_true rfl⟩) hK hN hA hP hD hS [14, 15, 16, 17, 18, 19, 20, 21, 22, 23, 24, 25, 26] [0, 1, 2, 3, 4, 5, 6, 7, 8, 9, 10, 11, 12, 13] rfl rfl (by decide) (by decide) (by decide) 0 rfl rfl (k_X5_road l G cI cJ cZ aM aM1 aM2 aM3 aM4 aM6 aM8 aM9 aM10 aM11 aM12 aM13 aM15 _ N vmN vmR vmBN vmHN vmL vmLo vmHi vmC vmZ vmB vmT vmM vmK vmF vmX vmH vmRow (xs (x3 + (1 : Int32)).toNatClampNeg) (xs (x3 + (2 : Int32)).toNatClampNeg) (xs (x3 + (3 : Int32)).toNatClampNeg) _ hw) rfl hl.1 rfl (Nat.le_of_ble_eq_true rfl) dL_law_142 ⟨by show cl + 0 + 0 ≤ 600000; omega, by show sl + 0 + 0 ≤ 7302250; omega⟩ (fun r_9 u_ H locs hw hP hD hS => ?_)
  obtain ⟨vmR_10, vmLo_11, vmHi_12, vmC_13, vmZ_14⟩ := u_
  replace hP : va_P G vwCl (wdL cI cJ cZ aX aY aS aR aE aC aF aT aK aH aW aA aQ aU aM aM1 aM2 aM3 aM4 aM6 aM8 aM9 aM10 aM11 aM12 aM13 aM15 vxL vxY vsB vrN vrA_5 vrE_6 vrC_7 vrF_8 vtN vtK vhN vhW vhA vsQ vsU vmN vmR_10 vmBN vmHN vmL vmLo_11 vmHi_12 vmC_13 vmZ_14 vmB vmT vmM vmK vmF vmX vmH vmRow) H := hP.sub [0, 1, 2, 3, 4, 5, 6, 7, 8, 9, 10, 11, 12, 13, 14, 15, 16, 17, 18, 19, 20, 21, 22, 23, 24, 25, 26] rfl
  replace hD : va_D (fun q : Nat => s.heap.size ≤ q) (wdL cI cJ cZ aX aY aS aR aE aC aF aT aK aH aW aA aQ aU aM aM1 aM2 aM3 aM4 aM6 aM8 aM9 aM10 aM11 aM12 aM13 aM15 vxL vxY vsB vrN vrA_5 vrE_6 vrC_7 vrF_8 vtN vtK vhN vhW vhA vsQ vsU vmN vmR_10 vmBN vmHN vmL vmLo_11 vmHi_12 vmC_13 vmZ_14 vmB vmT vmM vmK vmF vmX vmH vmRow) := hD.sub [0, 1, 2, 3, 4, 5, 6, 7, 8, 9, 10, 11, 12, 13, 14, 15, 16, 17, 18, 19, 20, 21, 22, 23, 24, 25, 26] (by decide) rfl
  refine lv_icmp_eq (tgt := 444) hx hb dL_law_145 (by decide) (fun c_15 => ?_) (fun c_15 => ?_)
  · replace hw := hw.1 c_15
    obtain ⟨x3_16, e_17⟩ : ∃ y : Int32, y = x3 + (5 : Int32) := ⟨_, rfl⟩
    replace hw := hw x3_16 e_17
    refine lv_iinc (v := x3_16) (lv' := [(3, .int x3_16), (0, .ref b), (1, .ref aX), (2, .ref aM)]) hx hb dL_law_444 hl (k := 3) rfl (by rw [e_17]; rfl) (by decide) rfl (fun ls hl => ?_)
    refine lv_goto (tgt := 18) hx hb dL_law_447 (by decide) ?_
    refine W.widen (k := cl + 1) (n := sl + 300) (by show cl + 0 + 0 ≤ _; omega) (by show sl + 0 + 0 ≤ _; omega) ?_
    exact ih vxL vxY vsB vrN vrA_5 vrE_6 vrC_7 vrF_8 vtN vtK vhN vhW vhA vsQ vsU vmN vmR_10 vmBN vmHN vmL vmLo_11 vmHi_12 vmC_13 vmZ_14 vmB vmT vmM vmK vmF vmX vmH vmRow x3_16 _ _ (cl + 1) (sl + 300) _ hw ⟨by omega, by omega⟩ hP hD hS (lv_sub hl [1, 2, 3, 0] rfl)
  · replace hw := hw.2 c_15
    refine lv_iconst (v := (0 : Int32)) hx hb dL_law_148 (by decide) ?_
    exact hw.elim
set_option maxHeartbeats 4000000 in
set_option maxRecDepth 100000 in
theorem lw_c150 {p : Program} {e : Env} {s : State} {m : MethodId} {below : List Frame} {meth : Method} {c : Code} (l : Launch) {b L : Nat} {xs : Nat → Int32} (C0 : lw_At p s m meth c b L xs) (G : va_G) (cI cJ cZ : ClassId) (hK : va_K G vwCl (tyL cI cJ cZ) s) (hN : nw_ok s) (aX aY aS aR aE aC aF aT aK aH aW aA aQ aU aM aM1 aM2 aM3 aM4 aM6 aM8 aM9 aM10 aM11 aM12 aM13 aM15 : Nat) (N n : Nat) (k18 : Int32 → (Nat → Int32) → Int32 → Int32 → Int32 → (Nat → Int32) → (Nat → Int32) → (Nat → Int32) → Int32 → (Nat → Int32) → Int32 → (Nat → Int64) → (Nat → Int32) → (Nat → Int32) → (Nat → Int32) → Int32 → Int32 → Int32 → Int32 → Int32 → (Nat → Int32) → (Nat → Int32) → (Nat → Int32) → (Nat → Int32) → (Nat → Int32) → (Nat → Int64) → (Nat → Int32) → (Nat → Int32) → (Nat → Int32) → (Nat → Int32) → (Nat → Int32) → (Nat → Int32) → Int32 → Prop) (ih : ∀ (vxL : Int32) (vxY : Nat → Int32) (vsB : Int32) (vrN : Int32) (vrA : Int32) (vrE : Nat → Int32) (vrC : Nat → Int32) (vrF : Nat → Int32) (vtN : Int32) (vtK : Nat → Int32) (vhN : Int32) (vhW : Nat → Int64) (vhA : Nat → Int32) (vsQ : Nat → Int32) (vsU : Nat → Int32) (vmN : Int32) (vmR : Int32) (vmBN : Int32) (vmHN : Int32) (vmL : Int32) (vmLo : Nat → Int32) (vmHi : Nat → Int32) (vmC : Nat → Int32) (vmZ : Nat → Int32) (vmB : Nat → Int32) (vmT : Nat → Int64) (vmM : Nat → Int32) (vmK : Nat → Int32) (vmF : Nat → Int32) (vmX : Nat → Int32) (vmH : Nat → Int32) (vmRow : Nat → Int32) (x3 : Int32) (H : Heap) (locs : List Loc) (cl sl : Nat) (ls : Array Slot), k18 vxL vxY vsB vrN vrA vrE vrC vrF vtN vtK vhN vhW vhA vsQ vsU vmN vmR vmBN vmHN vmL vmLo vmHi vmC vmZ vmB vmT vmM vmK vmF vmX vmH vmRow x3 → cl + n ≤ 1000 ∧ sl + 300 * n ≤ 300000 → va_P G vwCl (wdL cI cJ cZ aX aY aS aR aE aC aF aT aK aH aW aA aQ aU aM aM1 aM2 aM3 aM4 aM6 aM8 aM9 aM10 aM11 aM12 aM13 aM15 vxL vxY vsB vrN vrA vrE vrC vrF vtN vtK vhN vhW vhA vsQ vsU vmN vmR vmBN vmHN vmL vmLo vmHi vmC vmZ vmB vmT vmM vmK vmF vmX vmH vmRow) H → va_D (fun q : Nat => s.heap.size ≤ q) (wdL cI cJ cZ aX aY aS aR aE aC aF aT aK aH aW aA aQ aU aM aM1 aM2 aM3 aM4 aM6 aM8 aM9 aM10 aM11 aM12 aM13 aM15 vxL vxY vsB vrN vrA vrE vrC vrF vtN vtK vhN vhW vhA vsQ vsU vmN vmR vmBN vmHN vmL vmLo vmHi vmC vmZ vmB vmT vmM vmK vmF vmX vmH vmRow) → va_S (fun q : Nat => s.heap.size ≤ q) s.heap H locs → lv_has ls 4 [(0, .ref b), (1, .ref aX), (2, .ref aM), (3, .int x3)] → W p l e room_1 s m #[Value.ref b] below meth c H locs cl sl (lw_Z below #[Value.ref b] s) (F0 m 18 ls [])) (vxL : Int32) (vxY : Nat → Int32) (vsB : Int32) (vrN : Int32) (vrA : Int32) (vrE : Nat → Int32) (vrC : Nat → Int32) (vrF : Nat → Int32) (vtN : Int32) (vtK : Nat → Int32) (vhN : Int32) (vhW : Nat → Int64) (vhA : Nat → Int32) (vsQ : Nat → Int32) (vsU : Nat → Int32) (vmN : Int32) (vmR : Int32) (vmBN : Int32) (vmHN : Int32) (vmL : Int32) (vmLo : Nat → Int32) (vmHi : Nat → Int32) (vmC : Nat → Int32) (vmZ : Nat → Int32) (vmB : Nat → Int32) (vmT : Nat → Int64) (vmM : Nat → Int32) (vmK : Nat → Int32) (vmF : Nat → Int32) (vmX : Nat → Int32) (vmH : Nat → Int32) (vmRow : Nat → Int32) (x3 : Int32) (H : Heap) (locs : List Loc) (cl sl : Nat) (ls : Array Slot) (hw : w_L_c150 N L xs k18 vxL vxY vsB vrN vrA vrE vrC vrF vtN vtK vhN vhW vhA vsQ vsU vmN vmR vmBN vmHN vmL vmLo vmHi vmC vmZ vmB vmT vmM vmK vmF vmX vmH vmRow x3) (hcs : cl + n + 1 ≤ 1000 ∧ sl + 300 * n + 300 ≤ 300000) (hP : va_P G vwCl (wdL cI cJ cZ aX aY aS aR aE aC aF aT aK aH aW aA aQ aU aM aM1 aM2 aM3 aM4 aM6 aM8 aM9 aM10 aM11 aM12 aM13 aM15 vxL vxY vsB vrN vrA vrE vrC vrF vtN vtK vhN vhW vhA vsQ vsU vmN vmR vmBN vmHN vmL vmLo vmHi vmC vmZ vmB vmT vmM vmK vmF vmX vmH vmRow) H) (hD : va_D (fun q : Nat => s.heap.size ≤ q) (wdL cI cJ cZ aX aY aS aR aE aC aF aT aK aH aW aA aQ aU aM aM1 aM2 aM3 aM4 aM6 aM8 aM9 aM10 aM11 aM12 aM13 aM15 vxL vxY vsB vrN vrA vrE vrC vrF vtN vtK vhN vhW vhA vsQ vsU vmN vmR vmBN vmHN vmL vmLo vmHi vmC vmZ vmB vmT vmM vmK vmF vmX vmH vmRow)) (hS : va_S (fun q : Nat => s.heap.size ≤ q) s.heap H locs) (hl : lv_has ls 4 [(0, .ref b), (1, .ref aX), (2, .ref aM), (3, .int x3)]) : W p l e room_1 s m #[Value.ref b] below meth c H locs cl sl (lw_Z below #[Value.ref b] s) (F0 m 150 ls []) := by
  obtain ⟨hx, hb, hr, hml, hown, hts, hX, hbl, hlocks, hgv⟩ := id C0
  have hA : ∀ q : Nat, s.heap.size ≤ q → (fun q : Nat => s.heap.size ≤ q) q := fun _ h => h
  have hbA : ¬ (fun q : Nat => s.heap.size ≤ q) b := Nat.not_le.mpr hbl
  have hts2 : ∀ w ∈ wsL_law, w.before #[Value.ref b] s = true := fun w h => hts w (wsL_law_in w h)
  unfold w_L_c150 at hw
  refine lv_aload_n hx hb dL_law_150 rfl (lv_at hl 1 rfl) ?_
  refine lv_aload_n hx hb dL_law_151 rfl (lv_at hl 0 rfl) ?_
  refine lv_iload_n hx hb dL_law_152 rfl (lv_at hl 3 rfl) ?_
  refine lv_iconst (v := (1 : Int32)) hx hb dL_law_153 (by decide) ?_
  refine lv_iadd hx hb dL_law_154 ?_
  have h_1 := hw.1
  replace hw := hw.2
  refine va_sld hx hb hX hbl hbA hS h_1 dL_law_155 ?_
  refine lv_aload_n hx hb dL_law_156 rfl (lv_at hl 0 rfl) ?_
  refine lv_iload_n hx hb dL_law_157 rfl (lv_at hl 3 rfl) ?_
  refine lv_iconst (v := (2 : Int32)) hx hb dL_law_158 (by decide) ?_
  refine lv_iadd hx hb dL_law_159 ?_
  have h_2 := hw.1
  replace hw := hw.2
  refine va_sld hx hb hX hbl hbA hS h_2 dL_law_160 ?_
  refine lv_aload_n hx hb dL_law_161 rfl (lv_at hl 0 rfl) ?_
  refine lv_iload_n hx hb dL_law_162 rfl (lv_at hl 3 rfl) ?_
  refine lv_iconst (v := (3 : Int32)) hx hb dL_law_163 (by decide) ?_
  refine lv_iadd hx hb dL_law_164 ?_
  have h_3 := hw.1
  replace hw := hw.2
  refine va_sld hx hb hX hbl hbA hS h_3 dL_law_165 ?_
  refine lv_if_eq (tgt := 173) hx hb dL_law_166 (by decide) (fun c_4 => ?_) (fun c_4 => ?_)
  · replace hw := hw.1 c_4
    refine lv_iconst (v := (0 : Int32)) hx hb dL_law_173 (by decide) ?_
    refine kc_Vi (As := [.int (xs (x3 + (1 : Int32)).toNatClampNeg), .int (xs (x3 + (2 : Int32)).toNatClampNeg), .int (0 : Int32)]) (rest := []) (wc := wdX cI cJ cZ aX aY aS aR aE aC aF aT aK aH aW aA aQ aU vxL vxY vsB vrN vrA vrE vrC vrF vtN vtK vhN vhW vhA vsQ vsU) (wr := wdM cI cJ cZ aM aM1 aM2 aM3 aM4 aM6 aM8 aM9 aM10 aM11 aM12 aM13 aM15 vmN vmR vmBN vmHN vmL vmLo vmHi vmC vmZ vmB vmT vmM vmK vmF vmX vmH vmRow) ⟨hx, hb, hml, hown, hts2⟩ (cwV 3 hts2 gL_law_X4_close rfl rfl rfl (by decide +kernel) ⟨Nat.le_of_ble_eq_true rfl, Nat.le_of_ble_eq_true rfl⟩) hK hN hA hP hD hS [0, 1, 2, 3, 4, 5, 6, 7, 8, 9, 10, 11, 12, 13] [14, 15, 16, 17, 18, 19, 20, 21, 22, 23, 24, 25, 26] rfl rfl (by decide) (by decide) (by decide) 0 rfl rfl (k_X4_close l G cI cJ cZ aX aY aS aR aE aC aF aT aK aH aW aA aQ aU _ N vxL vxY vsB vrN vrA vrE vrC vrF vtN vtK vhN vhW vhA vsQ vsU (xs (x3 + (1 : Int32)).toNatClampNeg) (xs (x3 + (2 : Int32)).toNatClampNeg) (0 : Int32) _ hw) rfl hl.1 rfl (Nat.le_of_ble_eq_true rfl) dL_law_174 ⟨by show cl + 0 ≤ 600000; omega, by show sl + 0 ≤ 7302250; omega⟩ (fun r_5 u_ H locs hw hP hD hS => ?_)
    obtain ⟨vrC_6, hu_⟩ : ∃ z, z = u_ := ⟨_, rfl⟩
    subst hu_
    replace hP : va_P G vwCl (wdL cI cJ cZ aX aY aS aR aE aC aF aT aK aH aW aA aQ aU aM aM1 aM2 aM3 aM4 aM6 aM8 aM9 aM10 aM11 aM12 aM13 aM15 vxL vxY vsB vrN vrA vrE vrC_6 vrF vtN vtK vhN vhW vhA vsQ vsU vmN vmR vmBN vmHN vmL vmLo vmHi vmC vmZ vmB vmT vmM vmK vmF vmX vmH vmRow) H := hP.sub [13, 14, 15, 16, 17, 18, 19, 20, 21, 22, 23, 24, 25, 26, 0, 1, 2, 3, 4, 5, 6, 7, 8, 9, 10, 11, 12] rfl
    replace hD : va_D (fun q : Nat => s.heap.size ≤ q) (wdL cI cJ cZ aX aY aS aR aE aC aF aT aK aH aW aA aQ aU aM aM1 aM2 aM3 aM4 aM6 aM8 aM9 aM10 aM11 aM12 aM13 aM15 vxL vxY vsB vrN vrA vrE vrC_6 vrF vtN vtK vhN vhW vhA vsQ vsU vmN vmR vmBN vmHN vmL vmLo vmHi vmC vmZ vmB vmT vmM vmK vmF vmX vmH vmRow) := hD.sub [13, 14, 15, 16, 17, 18, 19, 20, 21, 22, 23, 24, 25, 26, 0, 1, 2, 3, 4, 5, 6, 7, 8, 9, 10, 11, 12] (by decide) rfl
    refine lv_aload_n hx hb dL_law_177 rfl (lv_at hl 2 rfl) ?_
    refine lv_aload_n hx hb dL_law_178 rfl (lv_at hl 0 rfl) ?_
    refine lv_iload_n hx hb dL_law_179 rfl (lv_at hl 3 rfl) ?_
    refine lv_iconst (v := (1 : Int32)) hx hb dL_law_180 (by decide) ?_
    refine lv_iadd hx hb dL_law_181 ?_
    refine va_sld hx hb hX hbl hbA hS h_1 dL_law_182 ?_
    refine lv_aload_n hx hb dL_law_183 rfl (lv_at hl 0 rfl) ?_
    refine lv_iload_n hx hb dL_law_184 rfl (lv_at hl 3 rfl) ?_
    refine lv_iconst (v := (2 : Int32)) hx hb dL_law_185 (by decide) ?_
    refine lv_iadd hx hb dL_law_186 ?_
    refine va_sld hx hb hX hbl hbA hS h_2 dL_law_187 ?_
    refine lv_aload_n hx hb dL_law_188 rfl (lv_at hl 0 rfl) ?_
    refine lv_iload_n hx hb dL_law_189 rfl (lv_at hl 3 rfl) ?_
    refine lv_iconst (v := (3 : Int32)) hx hb dL_law_190 (by decide) ?_
    refine lv_iadd hx hb dL_law_191 ?_
    refine va_sld hx hb hX hbl hbA hS h_3 dL_law_192 ?_
    refine lv_if_eq (tgt := 200) hx hb dL_law_193 (by decide) (fun c_7 => ?_) (fun c_7 => ?_)
    · replace hw := hw.1 c_7
      refine lv_iconst (v := (0 : Int32)) hx hb dL_law_200 (by decide) ?_
      refine kc_Vi (As := [.int (xs (x3 + (1 : Int32)).toNatClampNeg), .int (xs (x3 + (2 : Int32)).toNatClampNeg), .int (0 : Int32)]) (rest := [.int r_5]) (wc := wdM cI cJ cZ aM aM1 aM2 aM3 aM4 aM6 aM8 aM9 aM10 aM11 aM12 aM13 aM15 vmN vmR vmBN vmHN vmL vmLo vmHi vmC vmZ vmB vmT vmM vmK vmF vmX vmH vmRow) (wr := wdX cI cJ cZ aX aY aS aR aE aC aF aT aK aH aW aA aQ aU vxL vxY vsB vrN vrA vrE vrC_6 vrF vtN vtK vhN vhW vhA vsQ vsU) ⟨hx, hb, hml, hown, hts2⟩ (cwV 3 hts2 gL_law_X5_close rfl rfl rfl (by decide +kernel) ⟨Nat.le_of_ble_eq_true rfl, Nat.le_of_ble_eq_true rfl⟩) hK hN hA hP hD hS [14, 15, 16, 17, 18, 19, 20, 21, 22, 23, 24, 25, 26] [0, 1, 2, 3, 4, 5, 6, 7, 8, 9, 10, 11, 12, 13] rfl rfl (by decide) (by decide) (by decide) 0 rfl rfl (k_X5_close l G cI cJ cZ aM aM1 aM2 aM3 aM4 aM6 aM8 aM9 aM10 aM11 aM12 aM13 aM15 _ N vmN vmR vmBN vmHN vmL vmLo vmHi vmC vmZ vmB vmT vmM vmK vmF vmX vmH vmRow (xs (x3 + (1 : Int32)).toNatClampNeg) (xs (x3 + (2 : Int32)).toNatClampNeg) (0 : Int32) _ hw) rfl hl.1 rfl (Nat.le_of_ble_eq_true rfl) dL_law_201 ⟨by show cl + 0 + 0 ≤ 600000; omega, by show sl + 0 + 0 ≤ 7302250; omega⟩ (fun r_8 u_ H locs hw hP hD hS => ?_)
      obtain ⟨vmZ_9, hu_⟩ : ∃ z, z = u_ := ⟨_, rfl⟩
      subst hu_
      replace hP : va_P G vwCl (wdL cI cJ cZ aX aY aS aR aE aC aF aT aK aH aW aA aQ aU aM aM1 aM2 aM3 aM4 aM6 aM8 aM9 aM10 aM11 aM12 aM13 aM15 vxL vxY vsB vrN vrA vrE vrC_6 vrF vtN vtK vhN vhW vhA vsQ vsU vmN vmR vmBN vmHN vmL vmLo vmHi vmC vmZ_9 vmB vmT vmM vmK vmF vmX vmH vmRow) H := hP.sub [0, 1, 2, 3, 4, 5, 6, 7, 8, 9, 10, 11, 12, 13, 14, 15, 16, 17, 18, 19, 20, 21, 22, 23, 24, 25, 26] rfl
      replace hD : va_D (fun q : Nat => s.heap.size ≤ q) (wdL cI cJ cZ aX aY aS aR aE aC aF aT aK aH aW aA aQ aU aM aM1 aM2 aM3 aM4 aM6 aM8 aM9 aM10 aM11 aM12 aM13 aM15 vxL vxY vsB vrN vrA vrE vrC_6 vrF vtN vtK vhN vhW vhA vsQ vsU vmN vmR vmBN vmHN vmL vmLo vmHi vmC vmZ_9 vmB vmT vmM vmK vmF vmX vmH vmRow) := hD.sub [0, 1, 2, 3, 4, 5, 6, 7, 8, 9, 10, 11, 12, 13, 14, 15, 16, 17, 18, 19, 20, 21, 22, 23, 24, 25, 26] (by decide) rfl
      refine lv_icmp_eq (tgt := 444) hx hb dL_law_204 (by decide) (fun c_10 => ?_) (fun c_10 => ?_)
      · replace hw := hw.1 c_10
        obtain ⟨x3_11, e_12⟩ : ∃ y : Int32, y = x3 + (5 : Int32) := ⟨_, rfl⟩
        replace hw := hw x3_11 e_12
        refine lv_iinc (v := x3_11) (lv' := [(3, .int x3_11), (0, .ref b), (1, .ref aX), (2, .ref aM)]) hx hb dL_law_444 hl (k := 3) rfl (by rw [e_12]; rfl) (by decide) rfl (fun ls hl => ?_)
        refine lv_goto (tgt := 18) hx hb dL_law_447 (by decide) ?_
        refine W.widen (k := cl + 1) (n := sl + 300) (by show cl + 0 + 0 ≤ _; omega) (by show sl + 0 + 0 ≤ _; omega) ?_
        exact ih vxL vxY vsB vrN vrA vrE vrC_6 vrF vtN vtK vhN vhW vhA vsQ vsU vmN vmR vmBN vmHN vmL vmLo vmHi vmC vmZ_9 vmB vmT vmM vmK vmF vmX vmH vmRow x3_11 _ _ (cl + 1) (sl + 300) _ hw ⟨by omega, by omega⟩ hP hD hS (lv_sub hl [1, 2, 3, 0] rfl)
      · replace hw := hw.2 c_10
        refine lv_iconst (v := (0 : Int32)) hx hb dL_law_207 (by decide) ?_
        exact hw.elim
    · replace hw := hw.2 c_7
      refine lv_iconst (v := (1 : Int32)) hx hb dL_law_196 (by decide) ?_
      refine lv_goto (tgt := 201) hx hb dL_law_197 (by decide) ?_
      refine kc_Vi (As := [.int (xs (x3 + (1 : Int32)).toNatClampNeg), .int (xs (x3 + (2 : Int32)).toNatClampNeg), .int (1 : Int32)]) (rest := [.int r_5]) (wc := wdM cI cJ cZ aM aM1 aM2 aM3 aM4 aM6 aM8 aM9 aM10 aM11 aM12 aM13 aM15 vmN vmR vmBN vmHN vmL vmLo vmHi vmC vmZ vmB vmT vmM vmK vmF vmX vmH vmRow) (wr := wdX cI cJ cZ aX aY aS aR aE aC aF aT aK aH aW aA aQ aU vxL vxY vsB vrN vrA vrE vrC_6 vrF vtN vtK vhN vhW vhA vsQ vsU) ⟨hx, hb, hml, hown, hts2⟩ (cwV 3 hts2 gL_law_X5_close rfl rfl rfl (by decide +kernel) ⟨Nat.le_of_ble_eq_true rfl, Nat.le_of_ble_eq_true rfl⟩) hK hN hA hP hD hS [14, 15, 16, 17, 18, 19, 20, 21, 22, 23, 24, 25, 26] [0, 1, 2, 3, 4, 5, 6, 7, 8, 9, 10, 11, 12, 13] rfl rfl (by decide) (by decide) (by decide) 0 rfl rfl (k_X5_close l G cI cJ cZ aM aM1 aM2 aM3 aM4 aM6 aM8 aM9 aM10 aM11 aM12 aM13 aM15 _ N vmN vmR vmBN vmHN vmL vmLo vmHi vmC vmZ vmB vmT vmM vmK vmF vmX vmH vmRow (xs (x3 + (1 : Int32)).toNatClampNeg) (xs (x3 + (2 : Int32)).toNatClampNeg) (1 : Int32) _ hw) rfl hl.1 rfl (Nat.le_of_ble_eq_true rfl) dL_law_201 ⟨by show cl + 0 + 0 ≤ 600000; omega, by show sl + 0 + 0 ≤ 7302250; omega⟩ (fun r_13 u_ H locs hw hP hD hS => ?_)
      obtain ⟨vmZ_14, hu_⟩ : ∃ z, z = u_ := ⟨_, rfl⟩
      subst hu_
      replace hP : va_P G vwCl (wdL cI cJ cZ aX aY aS aR aE aC aF aT aK aH aW aA aQ aU aM aM1 aM2 aM3 aM4 aM6 aM8 aM9 aM10 aM11 aM12 aM13 aM15 vxL vxY vsB vrN vrA vrE vrC_6 vrF vtN vtK vhN vhW vhA vsQ vsU vmN vmR vmBN vmHN vmL vmLo vmHi vmC vmZ_14 vmB vmT vmM vmK vmF vmX vmH vmRow) H := hP.sub [0, 1, 2, 3, 4, 5, 6, 7, 8, 9, 10, 11, 12, 13, 14, 15, 16, 17, 18, 19, 20, 21, 22, 23, 24, 25, 26] rfl
      replace hD : va_D (fun q : Nat => s.heap.size ≤ q) (wdL cI cJ cZ aX aY aS aR aE aC aF aT aK aH aW aA aQ aU aM aM1 aM2 aM3 aM4 aM6 aM8 aM9 aM10 aM11 aM12 aM13 aM15 vxL vxY vsB vrN vrA vrE vrC_6 vrF vtN vtK vhN vhW vhA vsQ vsU vmN vmR vmBN vmHN vmL vmLo vmHi vmC vmZ_14 vmB vmT vmM vmK vmF vmX vmH vmRow) := hD.sub [0, 1, 2, 3, 4, 5, 6, 7, 8, 9, 10, 11, 12, 13, 14, 15, 16, 17, 18, 19, 20, 21, 22, 23, 24, 25, 26] (by decide) rfl
      refine lv_icmp_eq (tgt := 444) hx hb dL_law_204 (by decide) (fun c_15 => ?_) (fun c_15 => ?_)
      · replace hw := hw.1 c_15
        obtain ⟨x3_16, e_17⟩ : ∃ y : Int32, y = x3 + (5 : Int32) := ⟨_, rfl⟩
        replace hw := hw x3_16 e_17
        refine lv_iinc (v := x3_16) (lv' := [(3, .int x3_16), (0, .ref b), (1, .ref aX), (2, .ref aM)]) hx hb dL_law_444 hl (k := 3) rfl (by rw [e_17]; rfl) (by decide) rfl (fun ls hl => ?_)
        refine lv_goto (tgt := 18) hx hb dL_law_447 (by decide) ?_
        refine W.widen (k := cl + 1) (n := sl + 300) (by show cl + 0 + 0 ≤ _; omega) (by show sl + 0 + 0 ≤ _; omega) ?_
        exact ih vxL vxY vsB vrN vrA vrE vrC_6 vrF vtN vtK vhN vhW vhA vsQ vsU vmN vmR vmBN vmHN vmL vmLo vmHi vmC vmZ_14 vmB vmT vmM vmK vmF vmX vmH vmRow x3_16 _ _ (cl + 1) (sl + 300) _ hw ⟨by omega, by omega⟩ hP hD hS (lv_sub hl [1, 2, 3, 0] rfl)
      · replace hw := hw.2 c_15
        refine lv_iconst (v := (0 : Int32)) hx hb dL_law_207 (by decide) ?_
        exact hw.elim
  · replace hw := hw.2 c_4
    refine lv_iconst (v := (1 : Int32)) hx hb dL_law_169 (by decide) ?_
    refine lv_goto (tgt := 174) hx hb dL_law_170 (by decide) ?_
    refine kc_Vi (As := [.int (xs (x3 + (1 : Int32)).toNatClampNeg), .int (xs (x3 + (2 : Int32)).toNatClampNeg), .int (1 : Int32)]) (rest := []) (wc := wdX cI cJ cZ aX aY aS aR aE aC aF aT aK aH aW aA aQ aU vxL vxY vsB vrN vrA vrE vrC vrF vtN vtK vhN vhW vhA vsQ vsU) (wr := wdM cI cJ cZ aM aM1 aM2 aM3 aM4 aM6 aM8 aM9 aM10 aM11 aM12 aM13 aM15 vmN vmR vmBN vmHN vmL vmLo vmHi vmC vmZ vmB vmT vmM vmK vmF vmX vmH vmRow) ⟨hx, hb, hml, hown, hts2⟩ (cwV 3 hts2 gL_law_X4_close rfl rfl rfl (by decide +kernel) ⟨Nat.le_of_ble_eq_true rfl, Nat.le_of_ble_eq_true rfl⟩) hK hN hA hP hD hS [0, 1, 2, 3, 4, 5, 6, 7, 8, 9, 10, 11, 12, 13] [14, 15, 16, 17, 18, 19, 20, 21, 22, 23, 24, 25, 26] rfl rfl (by decide) (by decide) (by decide) 0 rfl rfl (k_X4_close l G cI cJ cZ aX aY aS aR aE aC aF aT aK aH aW aA aQ aU _ N vxL vxY vsB vrN vrA vrE vrC vrF vtN vtK vhN vhW vhA vsQ vsU (xs (x3 + (1 : Int32)).toNatClampNeg) (xs (x3 + (2 : Int32)).toNatClampNeg) (1 : Int32) _ hw) rfl hl.1 rfl (Nat.le_of_ble_eq_true rfl) dL_law_174 ⟨by show cl + 0 ≤ 600000; omega, by show sl + 0 ≤ 7302250; omega⟩ (fun r_18 u_ H locs hw hP hD hS => ?_)
    obtain ⟨vrC_19, hu_⟩ : ∃ z, z = u_ := ⟨_, rfl⟩
    subst hu_
    replace hP : va_P G vwCl (wdL cI cJ cZ aX aY aS aR aE aC aF aT aK aH aW aA aQ aU aM aM1 aM2 aM3 aM4 aM6 aM8 aM9 aM10 aM11 aM12 aM13 aM15 vxL vxY vsB vrN vrA vrE vrC_19 vrF vtN vtK vhN vhW vhA vsQ vsU vmN vmR vmBN vmHN vmL vmLo vmHi vmC vmZ vmB vmT vmM vmK vmF vmX vmH vmRow) H := hP.sub [13, 14, 15, 16, 17, 18, 19, 20, 21, 22, 23, 24, 25, 26, 0, 1, 2, 3, 4, 5, 6, 7, 8, 9, 10, 11, 12] rfl
    replace hD : va_D (fun q : Nat => s.heap.size ≤ q) (wdL cI cJ cZ aX aY aS aR aE aC aF aT aK aH aW aA aQ aU aM aM1 aM2 aM3 aM4 aM6 aM8 aM9 aM10 aM11 aM12 aM13 aM15 vxL vxY vsB vrN vrA vrE vrC_19 vrF vtN vtK vhN vhW vhA vsQ vsU vmN vmR vmBN vmHN vmL vmLo vmHi vmC vmZ vmB vmT vmM vmK vmF vmX vmH vmRow) := hD.sub [13, 14, 15, 16, 17, 18, 19, 20, 21, 22, 23, 24, 25, 26, 0, 1, 2, 3, 4, 5, 6, 7, 8, 9, 10, 11, 12] (by decide) rfl
    refine lv_aload_n hx hb dL_law_177 rfl (lv_at hl 2 rfl) ?_
    refine lv_aload_n hx hb dL_law_178 rfl (lv_at hl 0 rfl) ?_
    refine lv_iload_n hx hb dL_law_179 rfl (lv_at hl 3 rfl) ?_
    refine lv_iconst (v := (1 : Int32)) hx hb dL_law_180 (by decide) ?_
    refine lv_iadd hx hb dL_law_181 ?_
    refine va_sld hx hb hX hbl hbA hS h_1 dL_law_182 ?_
    refine lv_aload_n hx hb dL_law_183 rfl (lv_at hl 0 rfl) ?_
    refine lv_iload_n hx hb dL_law_184 rfl (lv_at hl 3 rfl) ?_
    refine lv_iconst (v := (2 : Int32)) hx hb dL_law_185 (by decide) ?_
    refine lv_iadd hx hb dL_law_186 ?_
    refine va_sld hx hb hX hbl hbA hS h_2 dL_law_187 ?_
    refine lv_aload_n hx hb dL_law_188 rfl (lv_at hl 0 rfl) ?_
    refine lv_iload_n hx hb dL_law_189 rfl (lv_at hl 3 rfl) ?_
    refine lv_iconst (v := (3 : Int32)) hx hb dL_law_190 (by decide) ?_
    refine lv_iadd hx hb dL_law_191 ?_
    refine va_sld hx hb hX hbl hbA hS h_3 dL_law_192 ?_
    refine lv_if_eq (tgt := 200) hx hb dL_law_193 (by decide) (fun c_20 => ?_) (fun c_20 => ?_)
    · replace hw := hw.1 c_20
      refine lv_iconst (v := (0 : Int32)) hx hb dL_law_200 (by decide) ?_
      refine kc_Vi (As := [.int (xs (x3 + (1 : Int32)).toNatClampNeg), .int (xs (x3 + (2 : Int32)).toNatClampNeg), .int (0 : Int32)]) (rest := [.int r_18]) (wc := wdM cI cJ cZ aM aM1 aM2 aM3 aM4 aM6 aM8 aM9 aM10 aM11 aM12 aM13 aM15 vmN vmR vmBN vmHN vmL vmLo vmHi vmC vmZ vmB vmT vmM vmK vmF vmX vmH vmRow) (wr := wdX cI cJ cZ aX aY aS aR aE aC aF aT aK aH aW aA aQ aU vxL vxY vsB vrN vrA vrE vrC_19 vrF vtN vtK vhN vhW vhA vsQ vsU) ⟨hx, hb, hml, hown, hts2⟩ (cwV 3 hts2 gL_law_X5_close rfl rfl rfl (by decide +kernel) ⟨Nat.le_of_ble_eq_true rfl, Nat.le_of_ble_eq_true rfl⟩) hK hN hA hP hD hS [14, 15, 16, 17, 18, 19, 20, 21, 22, 23, 24, 25, 26] [0, 1, 2, 3, 4, 5, 6, 7, 8, 9, 10, 11, 12, 13] rfl rfl (by decide) (by decide) (by decide) 0 rfl rfl (k_X5_close l G cI cJ cZ aM aM1 aM2 aM3 aM4 aM6 aM8 aM9 aM10 aM11 aM12 aM13 aM15 _ N vmN vmR vmBN vmHN vmL vmLo vmHi vmC vmZ vmB vmT vmM vmK vmF vmX vmH vmRow (xs (x3 + (1 : Int32)).toNatClampNeg) (xs (x3 + (2 : Int32)).toNatClampNeg) (0 : Int32) _ hw) rfl hl.1 rfl (Nat.le_of_ble_eq_true rfl) dL_law_201 ⟨by show cl + 0 + 0 ≤ 600000; omega, by show sl + 0 + 0 ≤ 7302250; omega⟩ (fun r_21 u_ H locs hw hP hD hS => ?_)
      obtain ⟨vmZ_22, hu_⟩ : ∃ z, z = u_ := ⟨_, rfl⟩
      subst hu_
      replace hP : va_P G vwCl (wdL cI cJ cZ aX aY aS aR aE aC aF aT aK aH aW aA aQ aU aM aM1 aM2 aM3 aM4 aM6 aM8 aM9 aM10 aM11 aM12 aM13 aM15 vxL vxY vsB vrN vrA vrE vrC_19 vrF vtN vtK vhN vhW vhA vsQ vsU vmN vmR vmBN vmHN vmL vmLo vmHi vmC vmZ_22 vmB vmT vmM vmK vmF vmX vmH vmRow) H := hP.sub [0, 1, 2, 3, 4, 5, 6, 7, 8, 9, 10, 11, 12, 13, 14, 15, 16, 17, 18, 19, 20, 21, 22, 23, 24, 25, 26] rfl
      replace hD : va_D (fun q : Nat => s.heap.size ≤ q) (wdL cI cJ cZ aX aY aS aR aE aC aF aT aK aH aW aA aQ aU aM aM1 aM2 aM3 aM4 aM6 aM8 aM9 aM10 aM11 aM12 aM13 aM15 vxL vxY vsB vrN vrA vrE vrC_19 vrF vtN vtK vhN vhW vhA vsQ vsU vmN vmR vmBN vmHN vmL vmLo vmHi vmC vmZ_22 vmB vmT vmM vmK vmF vmX vmH vmRow) := hD.sub [0, 1, 2, 3, 4, 5, 6, 7, 8, 9, 10, 11, 12, 13, 14, 15, 16, 17, 18, 19, 20, 21, 22, 23, 24, 25, 26] (by decide) rfl
      refine lv_icmp_eq (tgt := 444) hx hb dL_law_204 (by decide) (fun c_23 => ?_) (fun c_23 => ?_)
      · replace hw := hw.1 c_23
        obtain ⟨x3_24, e_25⟩ : ∃ y : Int32, y = x3 + (5 : Int32) := ⟨_, rfl⟩
        replace hw := hw x3_24 e_25
        refine lv_iinc (v := x3_24) (lv' := [(3, .int x3_24), (0, .ref b), (1, .ref aX), (2, .ref aM)]) hx hb dL_law_444 hl (k := 3) rfl (by rw [e_25]; rfl) (by decide) rfl (fun ls hl => ?_)
        refine lv_goto (tgt := 18) hx hb dL_law_447 (by decide) ?_
        refine W.widen (k := cl + 1) (n := sl + 300) (by show cl + 0 + 0 ≤ _; omega) (by show sl + 0 + 0 ≤ _; omega) ?_
        exact ih vxL vxY vsB vrN vrA vrE vrC_19 vrF vtN vtK vhN vhW vhA vsQ vsU vmN vmR vmBN vmHN vmL vmLo vmHi vmC vmZ_22 vmB vmT vmM vmK vmF vmX vmH vmRow x3_24 _ _ (cl + 1) (sl + 300) _ hw ⟨by omega, by omega⟩ hP hD hS (lv_sub hl [1, 2, 3, 0] rfl)
      · replace hw := hw.2 c_23
        refine lv_iconst (v := (0 : Int32)) hx hb dL_law_207 (by decide) ?_
        exact hw.elim
    · replace hw := hw.2 c_20
      refine lv_iconst (v := (1 : Int32)) hx hb dL_law_196 (by decide) ?_
      refine lv_goto (tgt := 201) hx hb dL_law_197 (by decide) ?_
      refine kc_Vi (As := [.int (xs (x3 + (1 : Int32)).toNatClampNeg), .int (xs (x3 + (2 : Int32)).toNatClampNeg), .int (1 : Int32)]) (rest := [.int r_18]) (wc := wdM cI cJ cZ aM aM1 aM2 aM3 aM4 aM6 aM8 aM9 aM10 aM11 aM12 aM13 aM15 vmN vmR vmBN vmHN vmL vmLo vmHi vmC vmZ vmB vmT vmM vmK vmF vmX vmH vmRow) (wr := wdX cI cJ cZ aX aY aS aR aE aC aF aT aK aH aW aA aQ aU vxL vxY vsB vrN vrA vrE vrC_19 vrF vtN vtK vhN vhW vhA vsQ vsU) ⟨hx, hb, hml, hown, hts2⟩ (cwV 3 hts2 gL_law_X5_close rfl rfl rfl (by decide +kernel) ⟨Nat.le_of_ble_eq_true rfl, Nat.le_of_ble_eq_true rfl⟩) hK hN hA hP hD hS [14, 15, 16, 17, 18, 19, 20, 21, 22, 23, 24, 25, 26] [0, 1, 2, 3, 4, 5, 6, 7, 8, 9, 10, 11, 12, 13] rfl rfl (by decide) (by decide) (by decide) 0 rfl rfl (k_X5_close l G cI cJ cZ aM aM1 aM2 aM3 aM4 aM6 aM8 aM9 aM10 aM11 aM12 aM13 aM15 _ N vmN vmR vmBN vmHN vmL vmLo vmHi vmC vmZ vmB vmT vmM vmK vmF vmX vmH vmRow (xs (x3 + (1 : Int32)).toNatClampNeg) (xs (x3 + (2 : Int32)).toNatClampNeg) (1 : Int32) _ hw) rfl hl.1 rfl (Nat.le_of_ble_eq_true rfl) dL_law_201 ⟨by show cl + 0 + 0 ≤ 600000; omega, by show sl + 0 + 0 ≤ 7302250; omega⟩ (fun r_26 u_ H locs hw hP hD hS => ?_)
      obtain ⟨vmZ_27, hu_⟩ : ∃ z, z = u_ := ⟨_, rfl⟩
      subst hu_
      replace hP : va_P G vwCl (wdL cI cJ cZ aX aY aS aR aE aC aF aT aK aH aW aA aQ aU aM aM1 aM2 aM3 aM4 aM6 aM8 aM9 aM10 aM11 aM12 aM13 aM15 vxL vxY vsB vrN vrA vrE vrC_19 vrF vtN vtK vhN vhW vhA vsQ vsU vmN vmR vmBN vmHN vmL vmLo vmHi vmC vmZ_27 vmB vmT vmM vmK vmF vmX vmH vmRow) H := hP.sub [0, 1, 2, 3, 4, 5, 6, 7, 8, 9, 10, 11, 12, 13, 14, 15, 16, 17, 18, 19, 20, 21, 22, 23, 24, 25, 26] rfl
      replace hD : va_D (fun q : Nat => s.heap.size ≤ q) (wdL cI cJ cZ aX aY aS aR aE aC aF aT aK aH aW aA aQ aU aM aM1 aM2 aM3 aM4 aM6 aM8 aM9 aM10 aM11 aM12 aM13 aM15 vxL vxY vsB vrN vrA vrE vrC_19 vrF vtN vtK vhN vhW vhA vsQ vsU vmN vmR vmBN vmHN vmL vmLo vmHi vmC vmZ_27 vmB vmT vmM vmK vmF vmX vmH vmRow) := hD.sub [0, 1, 2, 3, 4, 5, 6, 7, 8, 9, 10, 11, 12, 13, 14, 15, 16, 17, 18, 19, 20, 21, 22, 23, 24, 25, 26] (by decide) rfl
      refine lv_icmp_eq (tgt := 444) hx hb dL_law_204 (by decide) (fun c_28 => ?_) (fun c_28 => ?_)
      · replace hw := hw.1 c_28
        obtain ⟨x3_29, e_30⟩ : ∃ y : Int32, y = x3 + (5 : Int32) := ⟨_, rfl⟩
        replace hw := hw x3_29 e_30
        refine lv_iinc (v := x3_29) (lv' := [(3, .int x3_29), (0, .ref b), (1, .ref aX), (2, .ref aM)]) hx hb dL_law_444 hl (k := 3) rfl (by rw [e_30]; rfl) (by decide) rfl (fun ls hl => ?_)
        refine lv_goto (tgt := 18) hx hb dL_law_447 (by decide) ?_
        refine W.widen (k := cl + 1) (n := sl + 300) (by show cl + 0 + 0 ≤ _; omega) (by show sl + 0 + 0 ≤ _; omega) ?_
        exact ih vxL vxY vsB vrN vrA vrE vrC_19 vrF vtN vtK vhN vhW vhA vsQ vsU vmN vmR vmBN vmHN vmL vmLo vmHi vmC vmZ_27 vmB vmT vmM vmK vmF vmX vmH vmRow x3_29 _ _ (cl + 1) (sl + 300) _ hw ⟨by omega, by omega⟩ hP hD hS (lv_sub hl [1, 2, 3, 0] rfl)
      · replace hw := hw.2 c_28
        refine lv_iconst (v := (0 : Int32)) hx hb dL_law_207 (by decide) ?_
        exact hw.elim
set_option maxHeartbeats 4000000 in
set_option maxRecDepth 100000 in
theorem lw_c209 {p : Program} {e : Env} {s : State} {m : MethodId} {below : List Frame} {meth : Method} {c : Code} (l : Launch) {b L : Nat} {xs : Nat → Int32} (C0 : lw_At p s m meth c b L xs) (G : va_G) (cI cJ cZ : ClassId) (hK : va_K G vwCl (tyL cI cJ cZ) s) (hN : nw_ok s) (aX aY aS aR aE aC aF aT aK aH aW aA aQ aU aM aM1 aM2 aM3 aM4 aM6 aM8 aM9 aM10 aM11 aM12 aM13 aM15 : Nat) (N n : Nat) (k18 : Int32 → (Nat → Int32) → Int32 → Int32 → Int32 → (Nat → Int32) → (Nat → Int32) → (Nat → Int32) → Int32 → (Nat → Int32) → Int32 → (Nat → Int64) → (Nat → Int32) → (Nat → Int32) → (Nat → Int32) → Int32 → Int32 → Int32 → Int32 → Int32 → (Nat → Int32) → (Nat → Int32) → (Nat → Int32) → (Nat → Int32) → (Nat → Int32) → (Nat → Int64) → (Nat → Int32) → (Nat → Int32) → (Nat → Int32) → (Nat → Int32) → (Nat → Int32) → (Nat → Int32) → Int32 → Prop) (ih : ∀ (vxL : Int32) (vxY : Nat → Int32) (vsB : Int32) (vrN : Int32) (vrA : Int32) (vrE : Nat → Int32) (vrC : Nat → Int32) (vrF : Nat → Int32) (vtN : Int32) (vtK : Nat → Int32) (vhN : Int32) (vhW : Nat → Int64) (vhA : Nat → Int32) (vsQ : Nat → Int32) (vsU : Nat → Int32) (vmN : Int32) (vmR : Int32) (vmBN : Int32) (vmHN : Int32) (vmL : Int32) (vmLo : Nat → Int32) (vmHi : Nat → Int32) (vmC : Nat → Int32) (vmZ : Nat → Int32) (vmB : Nat → Int32) (vmT : Nat → Int64) (vmM : Nat → Int32) (vmK : Nat → Int32) (vmF : Nat → Int32) (vmX : Nat → Int32) (vmH : Nat → Int32) (vmRow : Nat → Int32) (x3 : Int32) (H : Heap) (locs : List Loc) (cl sl : Nat) (ls : Array Slot), k18 vxL vxY vsB vrN vrA vrE vrC vrF vtN vtK vhN vhW vhA vsQ vsU vmN vmR vmBN vmHN vmL vmLo vmHi vmC vmZ vmB vmT vmM vmK vmF vmX vmH vmRow x3 → cl + n ≤ 1000 ∧ sl + 300 * n ≤ 300000 → va_P G vwCl (wdL cI cJ cZ aX aY aS aR aE aC aF aT aK aH aW aA aQ aU aM aM1 aM2 aM3 aM4 aM6 aM8 aM9 aM10 aM11 aM12 aM13 aM15 vxL vxY vsB vrN vrA vrE vrC vrF vtN vtK vhN vhW vhA vsQ vsU vmN vmR vmBN vmHN vmL vmLo vmHi vmC vmZ vmB vmT vmM vmK vmF vmX vmH vmRow) H → va_D (fun q : Nat => s.heap.size ≤ q) (wdL cI cJ cZ aX aY aS aR aE aC aF aT aK aH aW aA aQ aU aM aM1 aM2 aM3 aM4 aM6 aM8 aM9 aM10 aM11 aM12 aM13 aM15 vxL vxY vsB vrN vrA vrE vrC vrF vtN vtK vhN vhW vhA vsQ vsU vmN vmR vmBN vmHN vmL vmLo vmHi vmC vmZ vmB vmT vmM vmK vmF vmX vmH vmRow) → va_S (fun q : Nat => s.heap.size ≤ q) s.heap H locs → lv_has ls 4 [(0, .ref b), (1, .ref aX), (2, .ref aM), (3, .int x3)] → W p l e room_1 s m #[Value.ref b] below meth c H locs cl sl (lw_Z below #[Value.ref b] s) (F0 m 18 ls [])) (vxL : Int32) (vxY : Nat → Int32) (vsB : Int32) (vrN : Int32) (vrA : Int32) (vrE : Nat → Int32) (vrC : Nat → Int32) (vrF : Nat → Int32) (vtN : Int32) (vtK : Nat → Int32) (vhN : Int32) (vhW : Nat → Int64) (vhA : Nat → Int32) (vsQ : Nat → Int32) (vsU : Nat → Int32) (vmN : Int32) (vmR : Int32) (vmBN : Int32) (vmHN : Int32) (vmL : Int32) (vmLo : Nat → Int32) (vmHi : Nat → Int32) (vmC : Nat → Int32) (vmZ : Nat → Int32) (vmB : Nat → Int32) (vmT : Nat → Int64) (vmM : Nat → Int32) (vmK : Nat → Int32) (vmF : Nat → Int32) (vmX : Nat → Int32) (vmH : Nat → Int32) (vmRow : Nat → Int32) (x3 : Int32) (H : Heap) (locs : List Loc) (cl sl : Nat) (ls : Array Slot) (hw : w_L_c209 N L xs k18 vxL vxY vsB vrN vrA vrE vrC vrF vtN vtK vhN vhW vhA vsQ vsU vmN vmR vmBN vmHN vmL vmLo vmHi vmC vmZ vmB vmT vmM vmK vmF vmX vmH vmRow x3) (hcs : cl + n + 1 ≤ 1000 ∧ sl + 300 * n + 300 ≤ 300000) (hP : va_P G vwCl (wdL cI cJ cZ aX aY aS aR aE aC aF aT aK aH aW aA aQ aU aM aM1 aM2 aM3 aM4 aM6 aM8 aM9 aM10 aM11 aM12 aM13 aM15 vxL vxY vsB vrN vrA vrE vrC vrF vtN vtK vhN vhW vhA vsQ vsU vmN vmR vmBN vmHN vmL vmLo vmHi vmC vmZ vmB vmT vmM vmK vmF vmX vmH vmRow) H) (hD : va_D (fun q : Nat => s.heap.size ≤ q) (wdL cI cJ cZ aX aY aS aR aE aC aF aT aK aH aW aA aQ aU aM aM1 aM2 aM3 aM4 aM6 aM8 aM9 aM10 aM11 aM12 aM13 aM15 vxL vxY vsB vrN vrA vrE vrC vrF vtN vtK vhN vhW vhA vsQ vsU vmN vmR vmBN vmHN vmL vmLo vmHi vmC vmZ vmB vmT vmM vmK vmF vmX vmH vmRow)) (hS : va_S (fun q : Nat => s.heap.size ≤ q) s.heap H locs) (hl : lv_has ls 4 [(0, .ref b), (1, .ref aX), (2, .ref aM), (3, .int x3)]) : W p l e room_1 s m #[Value.ref b] below meth c H locs cl sl (lw_Z below #[Value.ref b] s) (F0 m 209 ls []) := by
  obtain ⟨hx, hb, hr, hml, hown, hts, hX, hbl, hlocks, hgv⟩ := id C0
  have hA : ∀ q : Nat, s.heap.size ≤ q → (fun q : Nat => s.heap.size ≤ q) q := fun _ h => h
  have hbA : ¬ (fun q : Nat => s.heap.size ≤ q) b := Nat.not_le.mpr hbl
  have hts2 : ∀ w ∈ wsL_law, w.before #[Value.ref b] s = true := fun w h => hts w (wsL_law_in w h)
  unfold w_L_c209 at hw
  refine lv_aload_n hx hb dL_law_209 rfl (lv_at hl 1 rfl) ?_
  refine lv_aload_n hx hb dL_law_210 rfl (lv_at hl 0 rfl) ?_
  refine lv_iload_n hx hb dL_law_211 rfl (lv_at hl 3 rfl) ?_
  refine lv_iconst (v := (1 : Int32)) hx hb dL_law_212 (by decide) ?_
  refine lv_iadd hx hb dL_law_213 ?_
  have h_1 := hw.1
  replace hw := hw.2
  refine va_sld hx hb hX hbl hbA hS h_1 dL_law_214 ?_
  refine lv_aload_n hx hb dL_law_215 rfl (lv_at hl 0 rfl) ?_
  refine lv_iload_n hx hb dL_law_216 rfl (lv_at hl 3 rfl) ?_
  refine lv_iconst (v := (2 : Int32)) hx hb dL_law_217 (by decide) ?_
  refine lv_iadd hx hb dL_law_218 ?_
  have h_2 := hw.1
  replace hw := hw.2
  refine va_sld hx hb hX hbl hbA hS h_2 dL_law_219 ?_
  refine kc_Vi (As := [.int (xs (x3 + (1 : Int32)).toNatClampNeg), .int (xs (x3 + (2 : Int32)).toNatClampNeg)]) (rest := []) (wc := wdX cI cJ cZ aX aY aS aR aE aC aF aT aK aH aW aA aQ aU vxL vxY vsB vrN vrA vrE vrC vrF vtN vtK vhN vhW vhA vsQ vsU) (wr := wdM cI cJ cZ aM aM1 aM2 aM3 aM4 aM6 aM8 aM9 aM10 aM11 aM12 aM13 aM15 vmN vmR vmBN vmHN vmL vmLo vmHi vmC vmZ vmB vmT vmM vmK vmF vmX vmH vmRow) ⟨hx, hb, hml, hown, hts2⟩ (cwV 2 hts2 gL_law_X4_cost rfl rfl rfl (by decide +kernel) ⟨Nat.le_of_ble_eq_true rfl, Nat.le_of_ble_eq_true rfl⟩) hK hN hA hP hD hS [0, 1, 2, 3, 4, 5, 6, 7, 8, 9, 10, 11, 12, 13] [14, 15, 16, 17, 18, 19, 20, 21, 22, 23, 24, 25, 26] rfl rfl (by decide) (by decide) (by decide) 0 rfl rfl (k_X4_cost l G cI cJ cZ aX aY aS aR aE aC aF aT aK aH aW aA aQ aU _ N vxL vxY vsB vrN vrA vrE vrC vrF vtN vtK vhN vhW vhA vsQ vsU (xs (x3 + (1 : Int32)).toNatClampNeg) (xs (x3 + (2 : Int32)).toNatClampNeg) _ hw) rfl hl.1 rfl (Nat.le_of_ble_eq_true rfl) dL_law_220 ⟨by show cl + 0 ≤ 600000; omega, by show sl + 0 ≤ 7302250; omega⟩ (fun r_3 u_ H locs hw hP hD hS => ?_)
  replace hP : va_P G vwCl (wdL cI cJ cZ aX aY aS aR aE aC aF aT aK aH aW aA aQ aU aM aM1 aM2 aM3 aM4 aM6 aM8 aM9 aM10 aM11 aM12 aM13 aM15 vxL vxY vsB vrN vrA vrE vrC vrF vtN vtK vhN vhW vhA vsQ vsU vmN vmR vmBN vmHN vmL vmLo vmHi vmC vmZ vmB vmT vmM vmK vmF vmX vmH vmRow) H := hP.sub [13, 14, 15, 16, 17, 18, 19, 20, 21, 22, 23, 24, 25, 26, 0, 1, 2, 3, 4, 5, 6, 7, 8, 9, 10, 11, 12] rfl
  replace hD : va_D (fun q : Nat => s.heap.size ≤ q) (wdL cI cJ cZ aX aY aS aR aE aC aF aT aK aH aW aA aQ aU aM aM1 aM2 aM3 aM4 aM6 aM8 aM9 aM10 aM11 aM12 aM13 aM15 vxL vxY vsB vrN vrA vrE vrC vrF vtN vtK vhN vhW vhA vsQ vsU vmN vmR vmBN vmHN vmL vmLo vmHi vmC vmZ vmB vmT vmM vmK vmF vmX vmH vmRow) := hD.sub [13, 14, 15, 16, 17, 18, 19, 20, 21, 22, 23, 24, 25, 26, 0, 1, 2, 3, 4, 5, 6, 7, 8, 9, 10, 11, 12] (by decide) rfl
  refine lv_aload_n hx hb dL_law_223 rfl (lv_at hl 2 rfl) ?_
  refine lv_aload_n hx hb dL_law_224 rfl (lv_at hl 0 rfl) ?_
  refine lv_iload_n hx hb dL_law_225 rfl (lv_at hl 3 rfl) ?_
  refine lv_iconst (v := (1 : Int32)) hx hb dL_law_226 (by decide) ?_
  refine lv_iadd hx hb dL_law_227 ?_
  refine va_sld hx hb hX hbl hbA hS h_1 dL_law_228 ?_
  refine lv_aload_n hx hb dL_law_229 rfl (lv_at hl 0 rfl) ?_
  refine lv_iload_n hx hb dL_law_230 rfl (lv_at hl 3 rfl) ?_
  refine lv_iconst (v := (2 : Int32)) hx hb dL_law_231 (by decide) ?_
  refine lv_iadd hx hb dL_law_232 ?_
  refine va_sld hx hb hX hbl hbA hS h_2 dL_law_233 ?_
  refine kc_Vi (As := [.int (xs (x3 + (1 : Int32)).toNatClampNeg), .int (xs (x3 + (2 : Int32)).toNatClampNeg)]) (rest := [.int r_3]) (wc := wdM cI cJ cZ aM aM1 aM2 aM3 aM4 aM6 aM8 aM9 aM10 aM11 aM12 aM13 aM15 vmN vmR vmBN vmHN vmL vmLo vmHi vmC vmZ vmB vmT vmM vmK vmF vmX vmH vmRow) (wr := wdX cI cJ cZ aX aY aS aR aE aC aF aT aK aH aW aA aQ aU vxL vxY vsB vrN vrA vrE vrC vrF vtN vtK vhN vhW vhA vsQ vsU) ⟨hx, hb, hml, hown, hts2⟩ (cwV 2 hts2 gL_law_X5_cost rfl rfl rfl (by decide +kernel) ⟨Nat.le_of_ble_eq_true rfl, Nat.le_of_ble_eq_true rfl⟩) hK hN hA hP hD hS [14, 15, 16, 17, 18, 19, 20, 21, 22, 23, 24, 25, 26] [0, 1, 2, 3, 4, 5, 6, 7, 8, 9, 10, 11, 12, 13] rfl rfl (by decide) (by decide) (by decide) 0 rfl rfl (k_X5_cost l G cI cJ cZ aM aM1 aM2 aM3 aM4 aM6 aM8 aM9 aM10 aM11 aM12 aM13 aM15 _ N vmN vmR vmBN vmHN vmL vmLo vmHi vmC vmZ vmB vmT vmM vmK vmF vmX vmH vmRow (xs (x3 + (1 : Int32)).toNatClampNeg) (xs (x3 + (2 : Int32)).toNatClampNeg) _ hw) rfl hl.1 rfl (Nat.le_of_ble_eq_true rfl) dL_law_234 ⟨by show cl + 0 + 0 ≤ 600000; omega, by show sl + 0 + 0 ≤ 7302250; omega⟩ (fun r_4 u_ H locs hw hP hD hS => ?_)
  replace hP : va_P G vwCl (wdL cI cJ cZ aX aY aS aR aE aC aF aT aK aH aW aA aQ aU aM aM1 aM2 aM3 aM4 aM6 aM8 aM9 aM10 aM11 aM12 aM13 aM15 vxL vxY vsB vrN vrA vrE vrC vrF vtN vtK vhN vhW vhA vsQ vsU vmN vmR vmBN vmHN vmL vmLo vmHi vmC vmZ vmB vmT vmM vmK vmF vmX vmH vmRow) H := hP.sub [0, 1, 2, 3, 4, 5, 6, 7, 8, 9, 10, 11, 12, 13, 14, 15, 16, 17, 18, 19, 20, 21, 22, 23, 24, 25, 26] rfl
  replace hD : va_D (fun q : Nat => s.heap.size ≤ q) (wdL cI cJ cZ aX aY aS aR aE aC aF aT aK aH aW aA aQ aU aM aM1 aM2 aM3 aM4 aM6 aM8 aM9 aM10 aM11 aM12 aM13 aM15 vxL vxY vsB vrN vrA vrE vrC vrF vtN vtK vhN vhW vhA vsQ vsU vmN vmR vmBN vmHN vmL vmLo vmHi vmC vmZ vmB vmT vmM vmK vmF vmX vmH vmRow) := hD.sub [0, 1, 2, 3, 4, 5, 6, 7, 8, 9, 10, 11, 12, 13, 14, 15, 16, 17, 18, 19, 20, 21, 22, 23, 24, 25, 26] (by decide) rfl
  refine lv_icmp_eq (tgt := 444) hx hb dL_law_237 (by decide) (fun c_5 => ?_) (fun c_5 => ?_)
  · replace hw := hw.1 c_5
    obtain ⟨x3_6, e_7⟩ : ∃ y : Int32, y = x3 + (5 : Int32) := ⟨_, rfl⟩
    replace hw := hw x3_6 e_7
    refine lv_iinc (v := x3_6) (lv' := [(3, .int x3_6), (0, .ref b), (1, .ref aX), (2, .ref aM)]) hx hb dL_law_444 hl (k := 3) rfl (by rw [e_7]; rfl) (by decide) rfl (fun ls hl => ?_)
    refine lv_goto (tgt := 18) hx hb dL_law_447 (by decide) ?_
    refine W.widen (k := cl + 1) (n := sl + 300) (by show cl + 0 + 0 ≤ _; omega) (by show sl + 0 + 0 ≤ _; omega) ?_
    exact ih vxL vxY vsB vrN vrA vrE vrC vrF vtN vtK vhN vhW vhA vsQ vsU vmN vmR vmBN vmHN vmL vmLo vmHi vmC vmZ vmB vmT vmM vmK vmF vmX vmH vmRow x3_6 _ _ (cl + 1) (sl + 300) _ hw ⟨by omega, by omega⟩ hP hD hS (lv_sub hl [1, 2, 3, 0] rfl)
  · replace hw := hw.2 c_5
    refine lv_iconst (v := (0 : Int32)) hx hb dL_law_240 (by decide) ?_
    exact hw.elim
