set_option maxHeartbeats 4000000 in
set_option maxRecDepth 100000 in
theorem lw_c242 {p : Program} {e : Env} {s : State} {m : MethodId} {below : List Frame} {meth : Method} {c : Code} (l : Launch) {b L : Nat} {xs : Nat → Int32} (C0 : lw_At p s m meth c b L xs) (G : va_G) (cI cJ cZ : ClassId) (hK : va_K G vwCl (tyL cI cJ cZ) s) (hN : nw_ok s) (aX aY aS aR aE aC aF aT aK aH aW aA aQ aU aM aM1 aM2 aM3 aM4 aM6 aM8 aM9 aM10 aM11 aM12 aM13 aM15 : Nat) (N n : Nat) (k18 : Int32 → (Nat → Int32) → Int32 → Int32 → Int32 → (Nat → Int32) → (Nat → Int32) → (Nat → Int32) → Int32 → (Nat → Int32) → Int32 → (Nat → Int64) → (Nat → Int32) → (Nat → Int32) → (Nat → Int32) → Int32 → Int32 → Int32 → Int32 → Int32 → (Nat → Int32) → (Nat → Int32) → (Nat → Int32) → (Nat → Int32) → (Nat → Int32) → (Nat → Int64) → (Nat → Int32) → (Nat → Int32) → (Nat → Int32) → (Nat → Int32) → (Nat → Int32) → (Nat → Int32) → Int32 → Prop) (ih : ∀ (vxL : Int32) (vxY : Nat → Int32) (vsB : Int32) (vrN : Int32) (vrA : Int32) (vrE : Nat → Int32) (vrC : Nat → Int32) (vrF : Nat → Int32) (vtN : Int32) (vtK : Nat → Int32) (vhN : Int32) (vhW : Nat → Int64) (vhA : Nat → Int32) (vsQ : Nat → Int32) (vsU : Nat → Int32) (vmN : Int32) (vmR : Int32) (vmBN : Int32) (vmHN : Int32) (vmL : Int32) (vmLo : Nat → Int32) (vmHi : Nat → Int32) (vmC : Nat → Int32) (vmZ : Nat → Int32) (vmB : Nat → Int32) (vmT : Nat → Int64) (vmM : Nat → Int32) (vmK : Nat → Int32) (vmF : Nat → Int32) (vmX : Nat → Int32) (vmH : Nat → Int32) (vmRow : Nat → Int32) (x3 : Int32) (H : Heap) (locs : List Loc) (cl sl : Nat) (ls : Array Slot), k18 vxL vxY vsB vrN vrA vrE vrC vrF vtN vtK vhN vhW vhA vsQ vsU vmN vmR vmBN vmHN vmL vmLo vmHi vmC vmZ vmB vmT vmM vmK vmF vmX vmH vmRow x3 → cl + n ≤ 1000 ∧ sl + 300 * n ≤ 300000 → va_P G vwCl (wdL cI cJ cZ aX aY aS aR aE aC aF aT aK aH aW aA aQ aU aM aM1 aM2 aM3 aM4 aM6 aM8 aM9 aM10 aM11 aM12 aM13 aM15 vxL vxY vsB vrN vrA vrE vrC vrF vtN vtK vhN vhW vhA vsQ vsU vmN vmR vmBN vmHN vmL vmLo vmHi vmC vmZ vmB vmT vmM vmK vmF vmX vmH vmRow) H → va_D (fun q : Nat => s.heap.size ≤ q) (wdL cI cJ cZ aX aY aS aR aE aC aF aT aK aH aW aA aQ aU aM aM1 aM2 aM3 aM4 aM6 aM8 aM9 aM10 aM11 aM12 aM13 aM15 vxL vxY vsB vrN vrA vrE vrC vrF vtN vtK vhN vhW vhA vsQ vsU vmN vmR vmBN vmHN vmL vmLo vmHi vmC vmZ vmB vmT vmM vmK vmF vmX vmH vmRow) → va_S (fun q : Nat => s.heap.size ≤ q) s.heap H locs → lv_has ls 4 [(0, .ref b), (1, .ref aX), (2, .ref aM), (3, .int x3)] → W p l e room_1 s m #[Value.ref b] below meth c H locs cl sl (lw_Z below #[Value.ref b] s) (F0 m 18 ls [])) (vxL : Int32) (vxY : Nat → Int32) (vsB : Int32) (vrN : Int32) (vrA : Int32) (vrE : Nat → Int32) (vrC : Nat → Int32) (vrF : Nat → Int32) (vtN : Int32) (vtK : Nat → Int32) (vhN : Int32) (vhW : Nat → Int64) (vhA : Nat → Int32) (vsQ : Nat → Int32) (vsU : Nat → Int32) (vmN : Int32) (vmR : Int32) (vmBN : Int32) (vmHN : Int32) (vmL : Int32) (vmLo : Nat → Int32) (vmHi : Nat → Int32) (vmC : Nat → Int32) (vmZ : Nat → Int32) (vmB : Nat → Int32) (vmT : Nat → Int64) (vmM : Nat → Int32) (vmK : Nat → Int32) (vmF : Nat → Int32) (vmX : Nat → Int32) (vmH : Nat → Int32) (vmRow : Nat → Int32) (x3 : Int32) (H : Heap) (locs : List Loc) (cl sl : Nat) (ls : Array Slot) (hw : w_L_c242 N L xs k18 vxL vxY vsB vrN vrA vrE vrC vrF vtN vtK vhN vhW vhA vsQ vsU vmN vmR vmBN vmHN vmL vmLo vmHi vmC vmZ vmB vmT vmM vmK vmF vmX vmH vmRow x3) (hcs : cl + n + 1 ≤ 1000 ∧ sl + 300 * n + 300 ≤ 300000) (hP : va_P G vwCl (wdL cI cJ cZ aX aY aS aR aE aC aF aT aK aH aW aA aQ aU aM aM1 aM2 aM3 aM4 aM6 aM8 aM9 aM10 aM11 aM12 aM13 aM15 vxL vxY vsB vrN vrA vrE vrC vrF vtN vtK vhN vhW vhA vsQ vsU vmN vmR vmBN vmHN vmL vmLo vmHi vmC vmZ vmB vmT vmM vmK vmF vmX vmH vmRow) H) (hD : va_D (fun q : Nat => s.heap.size ≤ q) (wdL cI cJ cZ aX aY aS aR aE aC aF aT aK aH aW aA aQ aU aM aM1 aM2 aM3 aM4 aM6 aM8 aM9 aM10 aM11 aM12 aM13 aM15 vxL vxY vsB vrN vrA vrE vrC vrF vtN vtK vhN vhW vhA vsQ vsU vmN vmR vmBN vmHN vmL vmLo vmHi vmC vmZ vmB vmT vmM vmK vmF vmX vmH vmRow)) (hS : va_S (fun q : Nat => s.heap.size ≤ q) s.heap H locs) (hl : lv_has ls 4 [(0, .ref b), (1, .ref aX), (2, .ref aM), (3, .int x3)]) : W p l e room_1 s m #[Value.ref b] below meth c H locs cl sl (lw_Z below #[Value.ref b] s) (F0 m 242 ls []) := by
  obtain ⟨hx, hb, hr, hml, hown, hts, hX, hbl, hlocks, hgv⟩ := id C0
  have hA : ∀ q : Nat, s.heap.size ≤ q → (fun q : Nat => s.heap.size ≤ q) q := fun _ h => h
  have hbA : ¬ (fun q : Nat => s.heap.size ≤ q) b := Nat.not_le.mpr hbl
  have hts2 : ∀ w ∈ wsL_law, w.before #[Value.ref b] s = true := fun w h => hts w (wsL_law_in w h)
  unfold w_L_c242 at hw
  refine lv_aload_n hx hb dL_law_242 rfl (lv_at hl 1 rfl) ?_
  refine lv_aload_n hx hb dL_law_243 rfl (lv_at hl 0 rfl) ?_
  refine lv_iload_n hx hb dL_law_244 rfl (lv_at hl 3 rfl) ?_
  refine lv_iconst (v := (1 : Int32)) hx hb dL_law_245 (by decide) ?_
  refine lv_iadd hx hb dL_law_246 ?_
  have h_1 := hw.1
  replace hw := hw.2
  refine va_sld hx hb hX hbl hbA hS h_1 dL_law_247 ?_
  refine lv_aload_n hx hb dL_law_248 rfl (lv_at hl 0 rfl) ?_
  refine lv_iload_n hx hb dL_law_249 rfl (lv_at hl 3 rfl) ?_
  refine lv_iconst (v := (2 : Int32)) hx hb dL_law_250 (by decide) ?_
  refine lv_iadd hx hb dL_law_251 ?_
  have h_2 := hw.1
  replace hw := hw.2
  refine va_sld hx hb hX hbl hbA hS h_2 dL_law_252 ?_
  refine lv_aload_n hx hb dL_law_253 rfl (lv_at hl 0 rfl) ?_
  refine lv_iload_n hx hb dL_law_254 rfl (lv_at hl 3 rfl) ?_
  refine lv_iconst (v := (3 : Int32)) hx hb dL_law_255 (by decide) ?_
  refine lv_iadd hx hb dL_law_256 ?_
  have h_3 := hw.1
  replace hw := hw.2
  refine va_sld hx hb hX hbl hbA hS h_3 dL_law_257 ?_
  refine lv_aload_n hx hb dL_law_258 rfl (lv_at hl 0 rfl) ?_
  refine lv_iload_n hx hb dL_law_259 rfl (lv_at hl 3 rfl) ?_
  refine lv_iconst (v := (4 : Int32)) hx hb dL_law_260 (by decide) ?_
  refine lv_iadd hx hb dL_law_261 ?_
  have h_4 := hw.1
  replace hw := hw.2
  refine va_sld hx hb hX hbl hbA hS h_4 dL_law_262 ?_
  refine lv_if_eq (tgt := 270) hx hb dL_law_263 (by decide) (fun c_5 => ?_) (fun c_5 => ?_)
  · replace hw := hw.1 c_5
    refine lv_iconst (v := (0 : Int32)) hx hb dL_law_270 (by decide) ?_
    refine kc_Vi (As := [.int (xs (x3 + (1 : Int32)).toNatClampNeg), .int (xs (x3 + (2 : Int32)).toNatClampNeg), .int (xs (x3 + (3 : Int32)).toNatClampNeg), .int (0 : Int32)]) (rest := []) (wc := wdX cI cJ cZ aX aY aS aR aE aC aF aT aK aH aW aA aQ aU vxL vxY vsB vrN vrA vrE vrC vrF vtN vtK vhN vhW vhA vsQ vsU) (wr := wdM cI cJ cZ aM aM1 aM2 aM3 aM4 aM6 aM8 aM9 aM10 aM11 aM12 aM13 aM15 vmN vmR vmBN vmHN vmL vmLo vmHi vmC vmZ vmB vmT vmM vmK vmF vmX vmH vmRow) ⟨hx, hb, hml, hown, hts2⟩ (cwV 4 hts2 gL_law_X4_bar rfl rfl rfl (by decide +kernel) ⟨Nat.le_of_ble_eq_true rfl, Nat.le_of_ble_eq_true rfl⟩) hK hN hA hP hD hS [0, 1, 2, 3, 4, 5, 6, 7, 8, 9, 10, 11, 12, 13] [14, 15, 16, 17, 18, 19, 20, 21, 22, 23, 24, 25, 26] rfl rfl (by decide) (by decide) (by decide) 0 rfl rfl (k_X4_bar l G cI cJ cZ aX aY aS aR aE aC aF aT aK aH aW aA aQ aU _ N vxL vxY vsB vrN vrA vrE vrC vrF vtN vtK vhN vhW vhA vsQ vsU (xs (x3 + (1 : Int32)).toNatClampNeg) (xs (x3 + (2 : Int32)).toNatClampNeg) (xs (x3 + (3 : Int32)).toNatClampNeg) (0 : Int32) _ hw) rfl hl.1 rfl (Nat.le_of_ble_eq_true rfl) dL_law_271 ⟨by show cl + 0 ≤ 600000; omega, by show sl + 0 ≤ 7302250; omega⟩ (fun r_6 u_ H locs hw hP hD hS => ?_)
    obtain ⟨vtN_7, vtK_8⟩ := u_
    replace hP : va_P G vwCl (wdL cI cJ cZ aX aY aS aR aE aC aF aT aK aH aW aA aQ aU aM aM1 aM2 aM3 aM4 aM6 aM8 aM9 aM10 aM11 aM12 aM13 aM15 vxL vxY vsB vrN vrA vrE vrC vrF vtN_7 vtK_8 vhN vhW vhA vsQ vsU vmN vmR vmBN vmHN vmL vmLo vmHi vmC vmZ vmB vmT vmM vmK vmF vmX vmH vmRow) H := hP.sub [13, 14, 15, 16, 17, 18, 19, 20, 21, 22, 23, 24, 25, 26, 0, 1, 2, 3, 4, 5, 6, 7, 8, 9, 10, 11, 12] rfl
    replace hD : va_D (fun q : Nat => s.heap.size ≤ q) (wdL cI cJ cZ aX aY aS aR aE aC aF aT aK aH aW aA aQ aU aM aM1 aM2 aM3 aM4 aM6 aM8 aM9 aM10 aM11 aM12 aM13 aM15 vxL vxY vsB vrN vrA vrE vrC vrF vtN_7 vtK_8 vhN vhW vhA vsQ vsU vmN vmR vmBN vmHN vmL vmLo vmHi vmC vmZ vmB vmT vmM vmK vmF vmX vmH vmRow) := hD.sub [13, 14, 15, 16, 17, 18, 19, 20, 21, 22, 23, 24, 25, 26, 0, 1, 2, 3, 4, 5, 6, 7, 8, 9, 10, 11, 12] (by decide) rfl
    refine lv_aload_n hx hb dL_law_274 rfl (lv_at hl 2 rfl) ?_
    refine lv_aload_n hx hb dL_law_275 rfl (lv_at hl 0 rfl) ?_
    refine lv_iload_n hx hb dL_law_276 rfl (lv_at hl 3 rfl) ?_
    refine lv_iconst (v := (1 : Int32)) hx hb dL_law_277 (by decide) ?_
    refine lv_iadd hx hb dL_law_278 ?_
    refine va_sld hx hb hX hbl hbA hS h_1 dL_law_279 ?_
    refine lv_aload_n hx hb dL_law_280 rfl (lv_at hl 0 rfl) ?_
    refine lv_iload_n hx hb dL_law_281 rfl (lv_at hl 3 rfl) ?_
    refine lv_iconst (v := (2 : Int32)) hx hb dL_law_282 (by decide) ?_
    refine lv_iadd hx hb dL_law_283 ?_
    refine va_sld hx hb hX hbl hbA hS h_2 dL_law_284 ?_
    refine lv_aload_n hx hb dL_law_285 rfl (lv_at hl 0 rfl) ?_
    refine lv_iload_n hx hb dL_law_286 rfl (lv_at hl 3 rfl) ?_
    refine lv_iconst (v := (3 : Int32)) hx hb dL_law_287 (by decide) ?_
    refine lv_iadd hx hb dL_law_288 ?_
    refine va_sld hx hb hX hbl hbA hS h_3 dL_law_289 ?_
    refine lv_aload_n hx hb dL_law_290 rfl (lv_at hl 0 rfl) ?_
    refine lv_iload_n hx hb dL_law_291 rfl (lv_at hl 3 rfl) ?_
    refine lv_iconst (v := (4 : Int32)) hx hb dL_law_292 (by decide) ?_
    refine lv_iadd hx hb dL_law_293 ?_
    refine va_sld hx hb hX hbl hbA hS h_4 dL_law_294 ?_
    refine lv_if_eq (tgt := 302) hx hb dL_law_295 (by decide) (fun c_9 => ?_) (fun c_9 => ?_)
    · replace hw := hw.1 c_9
      refine lv_iconst (v := (0 : Int32)) hx hb dL_law_302 (by decide) ?_
      refine kc_Vi (As := [.int (xs (x3 + (1 : Int32)).toNatClampNeg), .int (xs (x3 + (2 : Int32)).toNatClampNeg), .int (xs (x3 + (3 : Int32)).toNatClampNeg), .int (0 : Int32)]) (rest := [.int r_6]) (wc := wdM cI cJ cZ aM aM1 aM2 aM3 aM4 aM6 aM8 aM9 aM10 aM11 aM12 aM13 aM15 vmN vmR vmBN vmHN vmL vmLo vmHi vmC vmZ vmB vmT vmM vmK vmF vmX vmH vmRow) (wr := wdX cI cJ cZ aX aY aS aR aE aC aF aT aK aH aW aA aQ aU vxL vxY vsB vrN vrA vrE vrC vrF vtN_7 vtK_8 vhN vhW vhA vsQ vsU) ⟨hx, hb, hml, hown, hts2⟩ (cwV 4 hts2 gL_law_X5_bar rfl rfl rfl (by decide +kernel) ⟨Nat.le_of_ble_eq_true rfl, Nat.le_of_ble_eq_true rfl⟩) hK hN hA hP hD hS [14, 15, 16, 17, 18, 19, 20, 21, 22, 23, 24, 25, 26] [0, 1, 2, 3, 4, 5, 6, 7, 8, 9, 10, 11, 12, 13] rfl rfl (by decide) (by decide) (by decide) 0 rfl rfl (k_X5_bar l G cI cJ cZ aM aM1 aM2 aM3 aM4 aM6 aM8 aM9 aM10 aM11 aM12 aM13 aM15 _ N vmN vmR vmBN vmHN vmL vmLo vmHi vmC vmZ vmB vmT vmM vmK vmF vmX vmH vmRow (xs (x3 + (1 : Int32)).toNatClampNeg) (xs (x3 + (2 : Int32)).toNatClampNeg) (xs (x3 + (3 : Int32)).toNatClampNeg) (0 : Int32) _ hw) rfl hl.1 rfl (Nat.le_of_ble_eq_true rfl) dL_law_303 ⟨by show cl + 0 + 0 ≤ 600000; omega, by show sl + 0 + 0 ≤ 7302250; omega⟩ (fun r_10 u_ H locs hw hP hD hS => ?_)
      obtain ⟨vmBN_11, vmB_12⟩ := u_
      replace hP : va_P G vwCl (wdL cI cJ cZ aX aY aS aR aE aC aF aT aK aH aW aA aQ aU aM aM1 aM2 aM3 aM4 aM6 aM8 aM9 aM10 aM11 aM12 aM13 aM15 vxL vxY vsB vrN vrA vrE vrC vrF vtN_7 vtK_8 vhN vhW vhA vsQ vsU vmN vmR vmBN_11 vmHN vmL vmLo vmHi vmC vmZ vmB_12 vmT vmM vmK vmF vmX vmH vmRow) H := hP.sub [0, 1, 2, 3, 4, 5, 6, 7, 8, 9, 10, 11, 12, 13, 14, 15, 16, 17, 18, 19, 20, 21, 22, 23, 24, 25, 26] rfl
      replace hD : va_D (fun q : Nat => s.heap.size ≤ q) (wdL cI cJ cZ aX aY aS aR aE aC aF aT aK aH aW aA aQ aU aM aM1 aM2 aM3 aM4 aM6 aM8 aM9 aM10 aM11 aM12 aM13 aM15 vxL vxY vsB vrN vrA vrE vrC vrF vtN_7 vtK_8 vhN vhW vhA vsQ vsU vmN vmR vmBN_11 vmHN vmL vmLo vmHi vmC vmZ vmB_12 vmT vmM vmK vmF vmX vmH vmRow) := hD.sub [0, 1, 2, 3, 4, 5, 6, 7, 8, 9, 10, 11, 12, 13, 14, 15, 16, 17, 18, 19, 20, 21, 22, 23, 24, 25, 26] (by decide) rfl
      refine lv_icmp_eq (tgt := 444) hx hb dL_law_306 (by decide) (fun c_13 => ?_) (fun c_13 => ?_)
      · replace hw := hw.1 c_13
        obtain ⟨x3_14, e_15⟩ : ∃ y : Int32, y = x3 + (5 : Int32) := ⟨_, rfl⟩
        replace hw := hw x3_14 e_15
        refine lv_iinc (v := x3_14) (lv' := [(3, .int x3_14), (0, .ref b), (1, .ref aX), (2, .ref aM)]) hx hb dL_law_444 hl (k := 3) rfl (by rw [e_15]; rfl) (by decide) rfl (fun ls hl => ?_)
        refine lv_goto (tgt := 18) hx hb dL_law_447 (by decide) ?_
        refine W.widen (k := cl + 1) (n := sl + 300) (by show cl + 0 + 0 ≤ _; omega) (by show sl + 0 + 0 ≤ _; omega) ?_
        exact ih vxL vxY vsB vrN vrA vrE vrC vrF vtN_7 vtK_8 vhN vhW vhA vsQ vsU vmN vmR vmBN_11 vmHN vmL vmLo vmHi vmC vmZ vmB_12 vmT vmM vmK vmF vmX vmH vmRow x3_14 _ _ (cl + 1) (sl + 300) _ hw ⟨by omega, by omega⟩ hP hD hS (lv_sub hl [1, 2, 3, 0] rfl)
      · replace hw := hw.2 c_13
        refine lv_iconst (v := (0 : Int32)) hx hb dL_law_309 (by decide) ?_
        exact hw.elim
    · replace hw := hw.2 c_9
      refine lv_iconst (v := (1 : Int32)) hx hb dL_law_298 (by decide) ?_
      refine lv_goto (tgt := 303) hx hb dL_law_299 (by decide) ?_
      refine kc_Vi (As := [.int (xs (x3 + (1 : Int32)).toNatClampNeg), .int (xs (x3 + (2 : Int32)).toNatClampNeg), .int (xs (x3 + (3 : Int32)).toNatClampNeg), .int (1 : Int32)]) (rest := [.int r_6]) (wc := wdM cI cJ cZ aM aM1 aM2 aM3 aM4 aM6 aM8 aM9 aM10 aM11 aM12 aM13 aM15 vmN vmR vmBN vmHN vmL vmLo vmHi vmC vmZ vmB vmT vmM vmK vmF vmX vmH vmRow) (wr := wdX cI cJ cZ aX aY aS aR aE aC aF aT aK aH aW aA aQ aU vxL vxY vsB vrN vrA vrE vrC vrF vtN_7 vtK_8 vhN vhW vhA vsQ vsU) ⟨hx, hb, hml, hown, hts2⟩ (cwV 4 hts2 gL_law_X5_bar rfl rfl rfl (by decide +kernel) ⟨Nat.le_of_ble_eq_true rfl, Nat.le_of_ble_eq_true rfl⟩) hK hN hA hP hD hS [14, 15, 16, 17, 18, 19, 20, 21, 22, 23, 24, 25, 26] [0, 1, 2, 3, 4, 5, 6, 7, 8, 9, 10, 11, 12, 13] rfl rfl (by decide) (by decide) (by decide) 0 rfl rfl (k_X5_bar l G cI cJ cZ aM aM1 aM2 aM3 aM4 aM6 aM8 aM9 aM10 aM11 aM12 aM13 aM15 _ N vmN vmR vmBN vmHN vmL vmLo vmHi vmC vmZ vmB vmT vmM vmK vmF vmX vmH vmRow (xs (x3 + (1 : Int32)).toNatClampNeg) (xs (x3 + (2 : Int32)).toNatClampNeg) (xs (x3 + (3 : Int32)).toNatClampNeg) (1 : Int32) _ hw) rfl hl.1 rfl (Nat.le_of_ble_eq_true rfl) dL_law_303 ⟨by show cl + 0 + 0 ≤ 600000; omega, by show sl + 0 + 0 ≤ 7302250; omega⟩ (fun r_16 u_ H locs hw hP hD hS => ?_)
      obtain ⟨vmBN_17, vmB_18⟩ := u_
      replace hP : va_P G vwCl (wdL cI cJ cZ aX aY aS aR aE aC aF aT aK aH aW aA aQ aU aM aM1 aM2 aM3 aM4 aM6 aM8 aM9 aM10 aM11 aM12 aM13 aM15 vxL vxY vsB vrN vrA vrE vrC vrF vtN_7 vtK_8 vhN vhW vhA vsQ vsU vmN vmR vmBN_17 vmHN vmL vmLo vmHi vmC vmZ vmB_18 vmT vmM vmK vmF vmX vmH vmRow) H := hP.sub [0, 1, 2, 3, 4, 5, 6, 7, 8, 9, 10, 11, 12, 13, 14, 15, 16, 17, 18, 19, 20, 21, 22, 23, 24, 25, 26] rfl
      replace hD : va_D (fun q : Nat => s.heap.size ≤ q) (wdL cI cJ cZ aX aY aS aR aE aC aF aT aK aH aW aA aQ aU aM aM1 aM2 aM3 aM4 aM6 aM8 aM9 aM10 aM11 aM12 aM13 aM15 vxL vxY vsB vrN vrA vrE vrC vrF vtN_7 vtK_8 vhN vhW vhA vsQ vsU vmN vmR vmBN_17 vmHN vmL vmLo vmHi vmC vmZ vmB_18 vmT vmM vmK vmF vmX vmH vmRow) := hD.sub [0, 1, 2, 3, 4, 5, 6, 7, 8, 9, 10, 11, 12, 13, 14, 15, 16, 17, 18, 19, 20, 21, 22, 23, 24, 25, 26] (by decide) rfl
      refine lv_icmp_eq (tgt := 444) hx hb dL_law_306 (by decide) (fun c_19 => ?_) (fun c_19 => ?_)
      · replace hw := hw.1 c_19
        obtain ⟨x3_20, e_21⟩ : ∃ y : Int32, y = x3 + (5 : Int32) := ⟨_, rfl⟩
        replace hw := hw x3_20 e_21
        refine lv_iinc (v := x3_20) (lv' := [(3, .int x3_20), (0, .ref b), (1, .ref aX), (2, .ref aM)]) hx hb dL_law_444 hl (k := 3) rfl (by rw [e_21]; rfl) (by decide) rfl (fun ls hl => ?_)
        refine lv_goto (tgt := 18) hx hb dL_law_447 (by decide) ?_
        refine W.widen (k := cl + 1) (n := sl + 300) (by show cl + 0 + 0 ≤ _; omega) (by show sl + 0 + 0 ≤ _; omega) ?_
        exact ih vxL vxY vsB vrN vrA vrE vrC vrF vtN_7 vtK_8 vhN vhW vhA vsQ vsU vmN vmR vmBN_17 vmHN vmL vmLo vmHi vmC vmZ vmB_18 vmT vmM vmK vmF vmX vmH vmRow x3_20 _ _ (cl + 1) (sl + 300) _ hw ⟨by omega, by omega⟩ hP hD hS (lv_sub hl [1, 2, 3, 0] rfl)
      · replace hw := hw.2 c_19
        refine lv_iconst (v := (0 : Int32)) hx hb dL_law_309 (by decide) ?_
        exact hw.elim
  · replace hw := hw.2 c_5
    refine lv_iconst (v := (1 : Int32)) hx hb dL_law_266 (by decide) ?_
    refine lv_goto (tgt := 271) hx hb dL_law_267 (by decide) ?_
    refine kc_Vi (As := [.int (xs (x3 + (1 : Int32)).toNatClampNeg), .int (xs (x3 + (2 : Int32)).toNatClampNeg), .int (xs (x3 + (3 : Int32)).toNatClampNeg), .int (1 : Int32)]) (rest := []) (wc := wdX cI cJ cZ aX aY aS aR aE aC aF aT aK aH aW aA aQ aU vxL vxY vsB vrN vrA vrE vrC vrF vtN vtK vhN vhW vhA vsQ vsU) (wr := wdM cI cJ cZ aM aM1 aM2 aM3 aM4 aM6 aM8 aM9 aM10 aM11 aM12 aM13 aM15 vmN vmR vmBN vmHN vmL vmLo vmHi vmC vmZ vmB vmT vmM vmK vmF vmX vmH vmRow) ⟨hx, hb, hml, hown, hts2⟩ (cwV 4 hts2 gL_law_X4_bar rfl rfl rfl (by decide +kernel) ⟨Nat.le_of_ble_eq_true rfl, Nat.le_of_ble_eq_true rfl⟩) hK hN hA hP hD hS [0, 1, 2, 3, 4, 5, 6, 7, 8, 9, 10, 11, 12, 13] [14, 15, 16, 17, 18, 19, 20, 21, 22, 23, 24, 25, 26] rfl rfl (by decide) (by decide) (by decide) 0 rfl rfl (k_X4_bar l G cI cJ cZ aX aY aS aR aE aC aF aT aK aH aW aA aQ aU _ N vxL vxY vsB vrN vrA vrE vrC vrF vtN vtK vhN vhW vhA vsQ vsU (xs (x3 + (1 : Int32)).toNatClampNeg) (xs (x3 + (2 : Int32)).toNatClampNeg) (xs (x3 + (3 : Int32)).toNatClampNeg) (1 : Int32) _ hw) rfl hl.1 rfl (Nat.le_of_ble_eq_true rfl) dL_law_271 ⟨by show cl + 0 ≤ 600000; omega, by show sl + 0 ≤ 7302250; omega⟩ (fun r_22 u_ H locs hw hP hD hS => ?_)
    obtain ⟨vtN_23, vtK_24⟩ := u_
    replace hP : va_P G vwCl (wdL cI cJ cZ aX aY aS aR aE aC aF aT aK aH aW aA aQ aU aM aM1 aM2 aM3 aM4 aM6 aM8 aM9 aM10 aM11 aM12 aM13 aM15 vxL vxY vsB vrN vrA vrE vrC vrF vtN_23 vtK_24 vhN vhW vhA vsQ vsU vmN vmR vmBN vmHN vmL vmLo vmHi vmC vmZ vmB vmT vmM vmK vmF vmX vmH vmRow) H := hP.sub [13, 14, 15, 16, 17, 18, 19, 20, 21, 22, 23, 24, 25, 26, 0, 1, 2, 3, 4, 5, 6, 7, 8, 9, 10, 11, 12] rfl
    replace hD : va_D (fun q : Nat => s.heap.size ≤ q) (wdL cI cJ cZ aX aY aS aR aE aC aF aT aK aH aW aA aQ aU aM aM1 aM2 aM3 aM4 aM6 aM8 aM9 aM10 aM11 aM12 aM13 aM15 vxL vxY vsB vrN vrA vrE vrC vrF vtN_23 vtK_24 vhN vhW vhA vsQ vsU vmN vmR vmBN vmHN vmL vmLo vmHi vmC vmZ vmB vmT vmM vmK vmF vmX vmH vmRow) := hD.sub [13, 14, 15, 16, 17, 18, 19, 20, 21, 22, 23, 24, 25, 26, 0, 1, 2, 3, 4, 5, 6, 7, 8, 9, 10, 11, 12] (by decide) rfl
    refine lv_aload_n hx hb dL_law_274 rfl (lv_at hl 2 rfl) ?_
    refine lv_aload_n hx hb dL_law_275 rfl (lv_at hl 0 rfl) ?_
    refine lv_iload_n hx hb dL_law_276 rfl (lv_at hl 3 rfl) ?_
    refine lv_iconst (v := (1 : Int32)) hx hb dL_law_277 (by decide) ?_
    refine lv_iadd hx hb dL_law_278 ?_
    refine va_sld hx hb hX hbl hbA hS h_1 dL_law_279 ?_
    refine lv_aload_n hx hb dL_law_280 rfl (lv_at hl 0 rfl) ?_
    refine lv_iload_n hx hb dL_law_281 rfl (lv_at hl 3 rfl) ?_
    refine lv_iconst (v := (2 : Int32)) hx hb dL_law_282 (by decide) ?_
    refine lv_iadd hx hb dL_law_283 ?_
    refine va_sld hx hb hX hbl hbA hS h_2 dL_law_284 ?_
    refine lv_aload_n hx hb dL_law_285 rfl (lv_at hl 0 rfl) ?_
    refine lv_iload_n hx hb dL_law_286 rfl (lv_at hl 3 rfl) ?_
    refine lv_iconst (v := (3 : Int32)) hx hb dL_law_287 (by decide) ?_
    refine lv_iadd hx hb dL_law_288 ?_
    refine va_sld hx hb hX hbl hbA hS h_3 dL_law_289 ?_
    refine lv_aload_n hx hb dL_law_290 rfl (lv_at hl 0 rfl) ?_
    refine lv_iload_n hx hb dL_law_291 rfl (lv_at hl 3 rfl) ?_
    refine lv_iconst (v := (4 : Int32)) hx hb dL_law_292 (by decide) ?_
    refine lv_iadd hx hb dL_law_293 ?_
    refine va_sld hx hb hX hbl hbA hS h_4 dL_law_294 ?_
    refine lv_if_eq (tgt := 302) hx hb dL_law_295 (by decide) (fun c_25 => ?_) (fun c_25 => ?_)
    · replace hw := hw.1 c_25
      refine lv_iconst (v := (0 : Int32)) hx hb dL_law_302 (by decide) ?_
      refine kc_Vi (As := [.int (xs (x3 + (1 : Int32)).toNatClampNeg), .int (xs (x3 + (2 : Int32)).toNatClampNeg), .int (xs (x3 + (3 : Int32)).toNatClampNeg), .int (0 : Int32)]) (rest := [.int r_22]) (wc := wdM cI cJ cZ aM aM1 aM2 aM3 aM4 aM6 aM8 aM9 aM10 aM11 aM12 aM13 aM15 vmN vmR vmBN vmHN vmL vmLo vmHi vmC vmZ vmB vmT vmM vmK vmF vmX vmH vmRow) (wr := wdX cI cJ cZ aX aY aS aR aE aC aF aT aK aH aW aA aQ aU vxL vxY vsB vrN vrA vrE vrC vrF vtN_23 vtK_24 vhN vhW vhA vsQ vsU) ⟨hx, hb, hml, hown, hts2⟩ (cwV 4 hts2 gL_law_X5_bar rfl rfl rfl (by decide +kernel) ⟨Nat.le_of_ble_eq_true rfl, Nat.le_of_ble_eq_true rfl⟩) hK hN hA hP hD hS [14, 15, 16, 17, 18, 19, 20, 21, 22, 23, 24, 25, 26] [0, 1, 2, 3, 4, 5, 6, 7, 8, 9, 10, 11, 12, 13] rfl rfl (by decide) (by decide) (by decide) 0 rfl rfl (k_X5_bar l G cI cJ cZ aM aM1 aM2 aM3 aM4 aM6 aM8 aM9 aM10 aM11 aM12 aM13 aM15 _ N vmN vmR vmBN vmHN vmL vmLo vmHi vmC vmZ vmB vmT vmM vmK vmF vmX vmH vmRow (xs (x3 + (1 : Int32)).toNatClampNeg) (xs (x3 + (2 : Int32)).toNatClampNeg) (xs (x3 + (3 : Int32)).toNatClampNeg) (0 : Int32) _ hw) rfl hl.1 rfl (Nat.le_of_ble_eq_true rfl) dL_law_303 ⟨by show cl + 0 + 0 ≤ 600000; omega, by show sl + 0 + 0 ≤ 7302250; omega⟩ (fun r_26 u_ H locs hw hP hD hS => ?_)
      obtain ⟨vmBN_27, vmB_28⟩ := u_
      replace hP : va_P G vwCl (wdL cI cJ cZ aX aY aS aR aE aC aF aT aK aH aW aA aQ aU aM aM1 aM2 aM3 aM4 aM6 aM8 aM9 aM10 aM11 aM12 aM13 aM15 vxL vxY vsB vrN vrA vrE vrC vrF vtN_23 vtK_24 vhN vhW vhA vsQ vsU vmN vmR vmBN_27 vmHN vmL vmLo vmHi vmC vmZ vmB_28 vmT vmM vmK vmF vmX vmH vmRow) H := hP.sub [0, 1, 2, 3, 4, 5, 6, 7, 8, 9, 10, 11, 12, 13, 14, 15, 16, 17, 18, 19, 20, 21, 22, 23, 24, 25, 26] rfl
      replace hD : va_D (fun q : Nat => s.heap.size ≤ q) (wdL cI cJ cZ aX aY aS aR aE aC aF aT aK aH aW aA aQ aU aM aM1 aM2 aM3 aM4 aM6 aM8 aM9 aM10 aM11 aM12 aM13 aM15 vxL vxY vsB vrN vrA vrE vrC vrF vtN_23 vtK_24 vhN vhW vhA vsQ vsU vmN vmR vmBN_27 vmHN vmL vmLo vmHi vmC vmZ vmB_28 vmT vmM vmK vmF vmX vmH vmRow) := hD.sub [0, 1, 2, 3, 4, 5, 6, 7, 8, 9, 10, 11, 12, 13, 14, 15, 16, 17, 18, 19, 20, 21, 22, 23, 24, 25, 26] (by decide) rfl
      refine lv_icmp_eq (tgt := 444) hx hb dL_law_306 (by decide) (fun c_29 => ?_) (fun c_29 => ?_)
      · replace hw := hw.1 c_29
        obtain ⟨x3_30, e_31⟩ : ∃ y : Int32, y = x3 + (5 : Int32) := ⟨_, rfl⟩
        replace hw := hw x3_30 e_31
        refine lv_iinc (v := x3_30) (lv' := [(3, .int x3_30), (0, .ref b), (1, .ref aX), (2, .ref aM)]) hx hb dL_law_444 hl (k := 3) rfl (by rw [e_31]; rfl) (by decide) rfl (fun ls hl => ?_)
        refine lv_goto (tgt := 18) hx hb dL_law_447 (by decide) ?_
        refine W.widen (k := cl + 1) (n := sl + 300) (by show cl + 0 + 0 ≤ _; omega) (by show sl + 0 + 0 ≤ _; omega) ?_
        exact ih vxL vxY vsB vrN vrA vrE vrC vrF vtN_23 vtK_24 vhN vhW vhA vsQ vsU vmN vmR vmBN_27 vmHN vmL vmLo vmHi vmC vmZ vmB_28 vmT vmM vmK vmF vmX vmH vmRow x3_30 _ _ (cl + 1) (sl + 300) _ hw ⟨by omega, by omega⟩ hP hD hS (lv_sub hl [1, 2, 3, 0] rfl)
      · replace hw := hw.2 c_29
        refine lv_iconst (v := (0 : Int32)) hx hb dL_law_309 (by decide) ?_
        exact hw.elim
    · replace hw := hw.2 c_25
      refine lv_iconst (v := (1 : Int32)) hx hb dL_law_298 (by decide) ?_
      refine lv_goto (tgt := 303) hx hb dL_law_299 (by decide) ?_
      refine kc_Vi (As := [.int (xs (x3 + (1 : Int32)).toNatClampNeg), .int (xs (x3 + (2 : Int32)).toNatClampNeg), .int (xs (x3 + (3 : Int32)).toNatClampNeg), .int (1 : Int32)]) (rest := [.int r_22]) (wc := wdM cI cJ cZ aM aM1 aM2 aM3 aM4 aM6 aM8 aM9 aM10 aM11 aM12 aM13 aM15 vmN vmR vmBN vmHN vmL vmLo vmHi vmC vmZ vmB vmT vmM vmK vmF vmX vmH vmRow) (wr := wdX cI cJ cZ aX aY aS aR aE aC aF aT aK aH aW aA aQ aU vxL vxY vsB vrN vrA vrE vrC vrF vtN_23 vtK_24 vhN vhW vhA vsQ vsU) ⟨hx, hb, hml, hown, hts2⟩ (cwV 4 hts2 gL_law_X5_bar rfl rfl rfl (by decide +kernel) ⟨Nat.le_of_ble_eq_true rfl, Nat.le_of_ble_eq_true rfl⟩) hK hN hA hP hD hS [14, 15, 16, 17, 18, 19, 20, 21, 22, 23, 24, 25, 26] [0, 1, 2, 3, 4, 5, 6, 7, 8, 9, 10, 11, 12, 13] rfl rfl (by decide) (by decide) (by decide) 0 rfl rfl (k_X5_bar l G cI cJ cZ aM aM1 aM2 aM3 aM4 aM6 aM8 aM9 aM10 aM11 aM12 aM13 aM15 _ N vmN vmR vmBN vmHN vmL vmLo vmHi vmC vmZ vmB vmT vmM vmK vmF vmX vmH vmRow (xs (x3 + (1 : Int32)).toNatClampNeg) (xs (x3 + (2 : Int32)).toNatClampNeg) (xs (x3 + (3 : Int32)).toNatClampNeg) (1 : Int32) _ hw) rfl hl.1 rfl (Nat.le_of_ble_eq_true rfl) dL_law_303 ⟨by show cl + 0 + 0 ≤ 600000; omega, by show sl + 0 + 0 ≤ 7302250; omega⟩ (fun r_32 u_ H locs hw hP hD hS => ?_)
      obtain ⟨vmBN_33, vmB_34⟩ := u_
      replace hP : va_P G vwCl (wdL cI cJ cZ aX aY aS aR aE aC aF aT aK aH aW aA aQ aU aM aM1 aM2 aM3 aM4 aM6 aM8 aM9 aM10 aM11 aM12 aM13 aM15 vxL vxY vsB vrN vrA vrE vrC vrF vtN_23 vtK_24 vhN vhW vhA vsQ vsU vmN vmR vmBN_33 vmHN vmL vmLo vmHi vmC vmZ vmB_34 vmT vmM vmK vmF vmX vmH vmRow) H := hP.sub [0, 1, 2, 3, 4, 5, 6, 7, 8, 9, 10, 11, 12, 13, 14, 15, 16, 17, 18, 19, 20, 21, 22, 23, 24, 25, 26] rfl
      replace hD : va_D (fun q : Nat => s.heap.size ≤ q) (wdL cI cJ cZ aX aY aS aR aE aC aF aT aK aH aW aA aQ aU aM aM1 aM2 aM3 aM4 aM6 aM8 aM9 aM10 aM11 aM12 aM13 aM15 vxL vxY vsB vrN vrA vrE vrC vrF vtN_23 vtK_24 vhN vhW vhA vsQ vsU vmN vmR vmBN_33 vmHN vmL vmLo vmHi vmC vmZ vmB_34 vmT vmM vmK vmF vmX vmH vmRow) := hD.sub [0, 1, 2, 3, 4, 5, 6, 7, 8, 9, 10, 11, 12, 13, 14, 15, 16, 17, 18, 19, 20, 21, 22, 23, 24, 25, 26] (by decide) rfl
      refine lv_icmp_eq (tgt := 444) hx hb dL_law_306 (by decide) (fun c_35 => ?_) (fun c_35 => ?_)
      · replace hw := hw.1 c_35
        obtain ⟨x3_36, e_37⟩ : ∃ y : Int32, y = x3 + (5 : Int32) := ⟨_, rfl⟩
        replace hw := hw x3_36 e_37
        refine lv_iinc (v := x3_36) (lv' := [(3, .int x3_36), (0, .ref b), (1, .ref aX), (2, .ref aM)]) hx hb dL_law_444 hl (k := 3) rfl (by rw [e_37]; rfl) (by decide) rfl (fun ls hl => ?_)
        refine lv_goto (tgt := 18) hx hb dL_law_447 (by decide) ?_
        refine W.widen (k := cl + 1) (n := sl + 300) (by show cl + 0 + 0 ≤ _; omega) (by show sl + 0 + 0 ≤ _; omega) ?_
        exact ih vxL vxY vsB vrN vrA vrE vrC vrF vtN_23 vtK_24 vhN vhW vhA vsQ vsU vmN vmR vmBN_33 vmHN vmL vmLo vmHi vmC vmZ vmB_34 vmT vmM vmK vmF vmX vmH vmRow x3_36 _ _ (cl + 1) (sl + 300) _ hw ⟨by omega, by omega⟩ hP hD hS (lv_sub hl [1, 2, 3, 0] rfl)
      · replace hw := hw.2 c_35
        refine lv_iconst (v := (0 : Int32)) hx hb dL_law_309 (by decide) ?_
        exact hw.elim
set_option maxHeartbeats 4000000 in
set_option maxRecDepth 100000 in
theorem lw_c311 {p : Program} {e : Env} {s : State} {m : MethodId} {below : List Frame} {meth : Method} {c : Code} (l : Launch) {b L : Nat} {xs : Nat → Int32} (C0 : lw_At p s m meth c b L xs) (G : va_G) (cI cJ cZ : ClassId) (hK : va_K G vwCl (tyL cI cJ cZ) s) (hN : nw_ok s) (aX aY aS aR aE aC aF aT aK aH aW aA aQ aU aM aM1 aM2 aM3 aM4 aM6 aM8 aM9 aM10 aM11 aM12 aM13 aM15 : Nat) (N n : Nat) (k18 : Int32 → (Nat → Int32) → Int32 → Int32 → Int32 → (Nat → Int32) → (Nat → Int32) → (Nat → Int32) → Int32 → (Nat → Int32) → Int32 → (Nat → Int64) → (Nat → Int32) → (Nat → Int32) → (Nat → Int32) → Int32 → Int32 → Int32 → Int32 → Int32 → (Nat → Int32) → (Nat → Int32) → (Nat → Int32) → (Nat → Int32) → (Nat → Int32) → (Nat → Int64) → (Nat → Int32) → (Nat → Int32) → (Nat → Int32) → (Nat → Int32) → (Nat → Int32) → (Nat → Int32) → Int32 → Prop) (ih : ∀ (vxL : Int32) (vxY : Nat → Int32) (vsB : Int32) (vrN : Int32) (vrA : Int32) (vrE : Nat → Int32) (vrC : Nat → Int32) (vrF : Nat → Int32) (vtN : Int32) (vtK : Nat → Int32) (vhN : Int32) (vhW : Nat → Int64) (vhA : Nat → Int32) (vsQ : Nat → Int32) (vsU : Nat → Int32) (vmN : Int32) (vmR : Int32) (vmBN : Int32) (vmHN : Int32) (vmL : Int32) (vmLo : Nat → Int32) (vmHi : Nat → Int32) (vmC : Nat → Int32) (vmZ : Nat → Int32) (vmB : Nat → Int32) (vmT : Nat → Int64) (vmM : Nat → Int32) (vmK : Nat → Int32) (vmF : Nat → Int32) (vmX : Nat → Int32) (vmH : Nat → Int32) (vmRow : Nat → Int32) (x3 : Int32) (H : Heap) (locs : List Loc) (cl sl : Nat) (ls : Array Slot), k18 vxL vxY vsB vrN vrA vrE vrC vrF vtN vtK vhN vhW vhA vsQ vsU vmN vmR vmBN vmHN vmL vmLo vmHi vmC vmZ vmB vmT vmM vmK vmF vmX vmH vmRow x3 → cl + n ≤ 1000 ∧ sl + 300 * n ≤ 300000 → va_P G vwCl (wdL cI cJ cZ aX aY aS aR aE aC aF aT aK aH aW aA aQ aU aM aM1 aM2 aM3 aM4 aM6 aM8 aM9 aM10 aM11 aM12 aM13 aM15 vxL vxY vsB vrN vrA vrE vrC vrF vtN vtK vhN vhW vhA vsQ vsU vmN vmR vmBN vmHN vmL vmLo vmHi vmC vmZ vmB vmT vmM vmK vmF vmX vmH vmRow) H → va_D (fun q : Nat => s.heap.size ≤ q) (wdL cI cJ cZ aX aY aS aR aE aC aF aT aK aH aW aA aQ aU aM aM1 aM2 aM3 aM4 aM6 aM8 aM9 aM10 aM11 aM12 aM13 aM15 vxL vxY vsB vrN vrA vrE vrC vrF vtN vtK vhN vhW vhA vsQ vsU vmN vmR vmBN vmHN vmL vmLo vmHi vmC vmZ vmB vmT vmM vmK vmF vmX vmH vmRow) → va_S (fun q : Nat => s.heap.size ≤ q) s.heap H locs → lv_has ls 4 [(0, .ref b), (1, .ref aX), (2, .ref aM), (3, .int x3)] → W p l e room_1 s m #[Value.ref b] below meth c H locs cl sl (lw_Z below #[Value.ref b] s) (F0 m 18 ls [])) (vxL : Int32) (vxY : Nat → Int32) (vsB : Int32) (vrN : Int32) (vrA : Int32) (vrE : Nat → Int32) (vrC : Nat → Int32) (vrF : Nat → Int32) (vtN : Int32) (vtK : Nat → Int32) (vhN : Int32) (vhW : Nat → Int64) (vhA : Nat → Int32) (vsQ : Nat → Int32) (vsU : Nat → Int32) (vmN : Int32) (vmR : Int32) (vmBN : Int32) (vmHN : Int32) (vmL : Int32) (vmLo : Nat → Int32) (vmHi : Nat → Int32) (vmC : Nat → Int32) (vmZ : Nat → Int32) (vmB : Nat → Int32) (vmT : Nat → Int64) (vmM : Nat → Int32) (vmK : Nat → Int32) (vmF : Nat → Int32) (vmX : Nat → Int32) (vmH : Nat → Int32) (vmRow : Nat → Int32) (x3 : Int32) (H : Heap) (locs : List Loc) (cl sl : Nat) (ls : Array Slot) (hw : w_L_c311 N L xs k18 vxL vxY vsB vrN vrA vrE vrC vrF vtN vtK vhN vhW vhA vsQ vsU vmN vmR vmBN vmHN vmL vmLo vmHi vmC vmZ vmB vmT vmM vmK vmF vmX vmH vmRow x3) (hcs : cl + n + 1 ≤ 1000 ∧ sl + 300 * n + 300 ≤ 300000) (hP : va_P G vwCl (wdL cI cJ cZ aX aY aS aR aE aC aF aT aK aH aW aA aQ aU aM aM1 aM2 aM3 aM4 aM6 aM8 aM9 aM10 aM11 aM12 aM13 aM15 vxL vxY vsB vrN vrA vrE vrC vrF vtN vtK vhN vhW vhA vsQ vsU vmN vmR vmBN vmHN vmL vmLo vmHi vmC vmZ vmB vmT vmM vmK vmF vmX vmH vmRow) H) (hD : va_D (fun q : Nat => s.heap.size ≤ q) (wdL cI cJ cZ aX aY aS aR aE aC aF aT aK aH aW aA aQ aU aM aM1 aM2 aM3 aM4 aM6 aM8 aM9 aM10 aM11 aM12 aM13 aM15 vxL vxY vsB vrN vrA vrE vrC vrF vtN vtK vhN vhW vhA vsQ vsU vmN vmR vmBN vmHN vmL vmLo vmHi vmC vmZ vmB vmT vmM vmK vmF vmX vmH vmRow)) (hS : va_S (fun q : Nat => s.heap.size ≤ q) s.heap H locs) (hl : lv_has ls 4 [(0, .ref b), (1, .ref aX), (2, .ref aM), (3, .int x3)]) : W p l e room_1 s m #[Value.ref b] below meth c H locs cl sl (lw_Z below #[Value.ref b] s) (F0 m 311 ls []) := by
  obtain ⟨hx, hb, hr, hml, hown, hts, hX, hbl, hlocks, hgv⟩ := id C0
  have hA : ∀ q : Nat, s.heap.size ≤ q → (fun q : Nat => s.heap.size ≤ q) q := fun _ h => h
  have hbA : ¬ (fun q : Nat => s.heap.size ≤ q) b := Nat.not_le.mpr hbl
  have hts2 : ∀ w ∈ wsL_law, w.before #[Value.ref b] s = true := fun w h => hts w (wsL_law_in w h)
  unfold w_L_c311 at hw
  refine lv_aload_n hx hb dL_law_311 rfl (lv_at hl 1 rfl) ?_
  refine lv_aload_n hx hb dL_law_312 rfl (lv_at hl 0 rfl) ?_
  refine lv_iload_n hx hb dL_law_313 rfl (lv_at hl 3 rfl) ?_
  refine lv_iconst (v := (1 : Int32)) hx hb dL_law_314 (by decide) ?_
  refine lv_iadd hx hb dL_law_315 ?_
  have h_1 := hw.1
  replace hw := hw.2
  refine va_sld hx hb hX hbl hbA hS h_1 dL_law_316 ?_
  refine lv_aload_n hx hb dL_law_317 rfl (lv_at hl 0 rfl) ?_
  refine lv_iload_n hx hb dL_law_318 rfl (lv_at hl 3 rfl) ?_
  refine lv_iconst (v := (2 : Int32)) hx hb dL_law_319 (by decide) ?_
  refine lv_iadd hx hb dL_law_320 ?_
  have h_2 := hw.1
  replace hw := hw.2
  refine va_sld hx hb hX hbl hbA hS h_2 dL_law_321 ?_
  refine kc_Vl (As := [.int (xs (x3 + (1 : Int32)).toNatClampNeg), .int (xs (x3 + (2 : Int32)).toNatClampNeg)]) (rest := []) (wc := wdX cI cJ cZ aX aY aS aR aE aC aF aT aK aH aW aA aQ aU vxL vxY vsB vrN vrA vrE vrC vrF vtN vtK vhN vhW vhA vsQ vsU) (wr := wdM cI cJ cZ aM aM1 aM2 aM3 aM4 aM6 aM8 aM9 aM10 aM11 aM12 aM13 aM15 vmN vmR vmBN vmHN vmL vmLo vmHi vmC vmZ vmB vmT vmM vmK vmF vmX vmH vmRow) ⟨hx, hb, hml, hown, hts2⟩ (cwV 2 hts2 gL_law_X4_route rfl rfl rfl (by decide +kernel) ⟨Nat.le_of_ble_eq_true rfl, Nat.le_of_ble_eq_true rfl⟩) hK hN hA hP hD hS [0, 1, 2, 3, 4, 5, 6, 7, 8, 9, 10, 11, 12, 13] [14, 15, 16, 17, 18, 19, 20, 21, 22, 23, 24, 25, 26] rfl rfl (by decide) (by decide) (by decide) 0 rfl rfl (k_X4_route l G cI cJ cZ aX aY aS aR aE aC aF aT aK aH aW aA aQ aU _ N vxL vxY vsB vrN vrA vrE vrC vrF vtN vtK vhN vhW vhA vsQ vsU (xs (x3 + (1 : Int32)).toNatClampNeg) (xs (x3 + (2 : Int32)).toNatClampNeg) _ hw) rfl hl.1 rfl (Nat.le_of_ble_eq_true rfl) dL_law_322 ⟨by show cl + 0 ≤ 600000; omega, by show sl + 0 ≤ 7302250; omega⟩ (fun r_3 u_ H locs hw hP hD hS => ?_)
  obtain ⟨vxL_4, vxY_5, vsB_6, vhN_7, vhW_8, vhA_9, vsQ_10, vsU_11⟩ := u_
  replace hP : va_P G vwCl (wdL cI cJ cZ aX aY aS aR aE aC aF aT aK aH aW aA aQ aU aM aM1 aM2 aM3 aM4 aM6 aM8 aM9 aM10 aM11 aM12 aM13 aM15 vxL_4 vxY_5 vsB_6 vrN vrA vrE vrC vrF vtN vtK vhN_7 vhW_8 vhA_9 vsQ_10 vsU_11 vmN vmR vmBN vmHN vmL vmLo vmHi vmC vmZ vmB vmT vmM vmK vmF vmX vmH vmRow) H := hP.sub [13, 14, 15, 16, 17, 18, 19, 20, 21, 22, 23, 24, 25, 26, 0, 1, 2, 3, 4, 5, 6, 7, 8, 9, 10, 11, 12] rfl
  replace hD : va_D (fun q : Nat => s.heap.size ≤ q) (wdL cI cJ cZ aX aY aS aR aE aC aF aT aK aH aW aA aQ aU aM aM1 aM2 aM3 aM4 aM6 aM8 aM9 aM10 aM11 aM12 aM13 aM15 vxL_4 vxY_5 vsB_6 vrN vrA vrE vrC vrF vtN vtK vhN_7 vhW_8 vhA_9 vsQ_10 vsU_11 vmN vmR vmBN vmHN vmL vmLo vmHi vmC vmZ vmB vmT vmM vmK vmF vmX vmH vmRow) := hD.sub [13, 14, 15, 16, 17, 18, 19, 20, 21, 22, 23, 24, 25, 26, 0, 1, 2, 3, 4, 5, 6, 7, 8, 9, 10, 11, 12] (by decide) rfl
  refine lv_aload_n hx hb dL_law_325 rfl (lv_at hl 2 rfl) ?_
  refine lv_aload_n hx hb dL_law_326 rfl (lv_at hl 0 rfl) ?_
  refine lv_iload_n hx hb dL_law_327 rfl (lv_at hl 3 rfl) ?_
  refine lv_iconst (v := (1 : Int32)) hx hb dL_law_328 (by decide) ?_
  refine lv_iadd hx hb dL_law_329 ?_
  refine va_sld hx hb hX hbl hbA hS h_1 dL_law_330 ?_
  refine lv_aload_n hx hb dL_law_331 rfl (lv_at hl 0 rfl) ?_
  refine lv_iload_n hx hb dL_law_332 rfl (lv_at hl 3 rfl) ?_
  refine lv_iconst (v := (2 : Int32)) hx hb dL_law_333 (by decide) ?_
  refine lv_iadd hx hb dL_law_334 ?_
  refine va_sld hx hb hX hbl hbA hS h_2 dL_law_335 ?_
  refine kc_Vl (As := [.int (xs (x3 + (1 : Int32)).toNatClampNeg), .int (xs (x3 + (2 : Int32)).toNatClampNeg)]) (rest := [.long r_3]) (wc := wdM cI cJ cZ aM aM1 aM2 aM3 aM4 aM6 aM8 aM9 aM10 aM11 aM12 aM13 aM15 vmN vmR vmBN vmHN vmL vmLo vmHi vmC vmZ vmB vmT vmM vmK vmF vmX vmH vmRow) (wr := wdX cI cJ cZ aX aY aS aR aE aC aF aT aK aH aW aA aQ aU vxL_4 vxY_5 vsB_6 vrN vrA vrE vrC vrF vtN vtK vhN_7 vhW_8 vhA_9 vsQ_10 vsU_11) ⟨hx, hb, hml, hown, hts2⟩ (cwV 2 hts2 gL_law_X5_route rfl rfl rfl (by decide +kernel) ⟨Nat.le_of_ble_eq_true rfl, Nat.le_of_ble_eq_true rfl⟩) hK hN hA hP hD hS [14, 15, 16, 17, 18, 19, 20, 21, 22, 23, 24, 25, 26] [0, 1, 2, 3, 4, 5, 6, 7, 8, 9, 10, 11, 12, 13] rfl rfl (by decide) (by decide) (by decide) 0 rfl rfl (k_X5_route l G cI cJ cZ aM aM1 aM2 aM3 aM4 aM6 aM8 aM9 aM10 aM11 aM12 aM13 aM15 _ N vmN vmR vmBN vmHN vmL vmLo vmHi vmC vmZ vmB vmT vmM vmK vmF vmX vmH vmRow (xs (x3 + (1 : Int32)).toNatClampNeg) (xs (x3 + (2 : Int32)).toNatClampNeg) _ hw) rfl hl.1 rfl (Nat.le_of_ble_eq_true rfl) dL_law_336 ⟨by show cl + 0 + 0 ≤ 600000; omega, by show sl + 0 + 0 ≤ 7302250; omega⟩ (fun r_12 u_ H locs hw hP hD hS => ?_)
  obtain ⟨vmHN_13, vmL_14, vmT_15, vmM_16, vmK_17, vmF_18, vmX_19, vmH_20, vmRow_21⟩ := u_
  replace hP : va_P G vwCl (wdL cI cJ cZ aX aY aS aR aE aC aF aT aK aH aW aA aQ aU aM aM1 aM2 aM3 aM4 aM6 aM8 aM9 aM10 aM11 aM12 aM13 aM15 vxL_4 vxY_5 vsB_6 vrN vrA vrE vrC vrF vtN vtK vhN_7 vhW_8 vhA_9 vsQ_10 vsU_11 vmN vmR vmBN vmHN_13 vmL_14 vmLo vmHi vmC vmZ vmB vmT_15 vmM_16 vmK_17 vmF_18 vmX_19 vmH_20 vmRow_21) H := hP.sub [0, 1, 2, 3, 4, 5, 6, 7, 8, 9, 10, 11, 12, 13, 14, 15, 16, 17, 18, 19, 20, 21, 22, 23, 24, 25, 26] rfl
  replace hD : va_D (fun q : Nat => s.heap.size ≤ q) (wdL cI cJ cZ aX aY aS aR aE aC aF aT aK aH aW aA aQ aU aM aM1 aM2 aM3 aM4 aM6 aM8 aM9 aM10 aM11 aM12 aM13 aM15 vxL_4 vxY_5 vsB_6 vrN vrA vrE vrC vrF vtN vtK vhN_7 vhW_8 vhA_9 vsQ_10 vsU_11 vmN vmR vmBN vmHN_13 vmL_14 vmLo vmHi vmC vmZ vmB vmT_15 vmM_16 vmK_17 vmF_18 vmX_19 vmH_20 vmRow_21) := hD.sub [0, 1, 2, 3, 4, 5, 6, 7, 8, 9, 10, 11, 12, 13, 14, 15, 16, 17, 18, 19, 20, 21, 22, 23, 24, 25, 26] (by decide) rfl
  refine W.lcmp hx hb dL_law_339 ?_
  refine lv_if_eq (tgt := 444) hx hb dL_law_340 (by decide) (fun c_22 => ?_) (fun c_22 => ?_)
  · replace hw := hw.1 c_22
    obtain ⟨x3_23, e_24⟩ : ∃ y : Int32, y = x3 + (5 : Int32) := ⟨_, rfl⟩
    replace hw := hw x3_23 e_24
    refine lv_iinc (v := x3_23) (lv' := [(3, .int x3_23), (0, .ref b), (1, .ref aX), (2, .ref aM)]) hx hb dL_law_444 hl (k := 3) rfl (by rw [e_24]; rfl) (by decide) rfl (fun ls hl => ?_)
    refine lv_goto (tgt := 18) hx hb dL_law_447 (by decide) ?_
    refine W.widen (k := cl + 1) (n := sl + 300) (by show cl + 0 + 0 ≤ _; omega) (by show sl + 0 + 0 ≤ _; omega) ?_
    exact ih vxL_4 vxY_5 vsB_6 vrN vrA vrE vrC vrF vtN vtK vhN_7 vhW_8 vhA_9 vsQ_10 vsU_11 vmN vmR vmBN vmHN_13 vmL_14 vmLo vmHi vmC vmZ vmB vmT_15 vmM_16 vmK_17 vmF_18 vmX_19 vmH_20 vmRow_21 x3_23 _ _ (cl + 1) (sl + 300) _ hw ⟨by omega, by omega⟩ hP hD hS (lv_sub hl [1, 2, 3, 0] rfl)
  · replace hw := hw.2 c_22
    refine lv_iconst (v := (0 : Int32)) hx hb dL_law_343 (by decide) ?_
    exact hw.elim
set_option maxHeartbeats 4000000 in
set_option maxRecDepth 100000 in
theorem lw_c345 {p : Program} {e : Env} {s : State} {m : MethodId} {below : List Frame} {meth : Method} {c : Code} (l : Launch) {b L : Nat} {xs : Nat → Int32} (C0 : lw_At p s m meth c b L xs) (G : va_G) (cI cJ cZ : ClassId) (hK : va_K G vwCl (tyL cI cJ cZ) s) (hN : nw_ok s) (aX aY aS aR aE aC aF aT aK aH aW aA aQ aU aM aM1 aM2 aM3 aM4 aM6 aM8 aM9 aM10 aM11 aM12 aM13 aM15 : Nat) (N n : Nat) (k18 : Int32 → (Nat → Int32) → Int32 → Int32 → Int32 → (Nat → Int32) → (Nat → Int32) → (Nat → Int32) → Int32 → (Nat → Int32) → Int32 → (Nat → Int64) → (Nat → Int32) → (Nat → Int32) → (Nat → Int32) → Int32 → Int32 → Int32 → Int32 → Int32 → (Nat → Int32) → (Nat → Int32) → (Nat → Int32) → (Nat → Int32) → (Nat → Int32) → (Nat → Int64) → (Nat → Int32) → (Nat → Int32) → (Nat → Int32) → (Nat → Int32) → (Nat → Int32) → (Nat → Int32) → Int32 → Prop) (ih : ∀ (vxL : Int32) (vxY : Nat → Int32) (vsB : Int32) (vrN : Int32) (vrA : Int32) (vrE : Nat → Int32) (vrC : Nat → Int32) (vrF : Nat → Int32) (vtN : Int32) (vtK : Nat → Int32) (vhN : Int32) (vhW : Nat → Int64) (vhA : Nat → Int32) (vsQ : Nat → Int32) (vsU : Nat → Int32) (vmN : Int32) (vmR : Int32) (vmBN : Int32) (vmHN : Int32) (vmL : Int32) (vmLo : Nat → Int32) (vmHi : Nat → Int32) (vmC : Nat → Int32) (vmZ : Nat → Int32) (vmB : Nat → Int32) (vmT : Nat → Int64) (vmM : Nat → Int32) (vmK : Nat → Int32) (vmF : Nat → Int32) (vmX : Nat → Int32) (vmH : Nat → Int32) (vmRow : Nat → Int32) (x3 : Int32) (H : Heap) (locs : List Loc) (cl sl : Nat) (ls : Array Slot), k18 vxL vxY vsB vrN vrA vrE vrC vrF vtN vtK vhN vhW vhA vsQ vsU vmN vmR vmBN vmHN vmL vmLo vmHi vmC vmZ vmB vmT vmM vmK vmF vmX vmH vmRow x3 → cl + n ≤ 1000 ∧ sl + 300 * n ≤ 300000 → va_P G vwCl (wdL cI cJ cZ aX aY aS aR aE aC aF aT aK aH aW aA aQ aU aM aM1 aM2 aM3 aM4 aM6 aM8 aM9 aM10 aM11 aM12 aM13 aM15 vxL vxY vsB vrN vrA vrE vrC vrF vtN vtK vhN vhW vhA vsQ vsU vmN vmR vmBN vmHN vmL vmLo vmHi vmC vmZ vmB vmT vmM vmK vmF vmX vmH vmRow) H → va_D (fun q : Nat => s.heap.size ≤ q) (wdL cI cJ cZ aX aY aS aR aE aC aF aT aK aH aW aA aQ aU aM aM1 aM2 aM3 aM4 aM6 aM8 aM9 aM10 aM11 aM12 aM13 aM15 vxL vxY vsB vrN vrA vrE vrC vrF vtN vtK vhN vhW vhA vsQ vsU vmN vmR vmBN vmHN vmL vmLo vmHi vmC vmZ vmB vmT vmM vmK vmF vmX vmH vmRow) → va_S (fun q : Nat => s.heap.size ≤ q) s.heap H locs → lv_has ls 4 [(0, .ref b), (1, .ref aX), (2, .ref aM), (3, .int x3)] → W p l e room_1 s m #[Value.ref b] below meth c H locs cl sl (lw_Z below #[Value.ref b] s) (F0 m 18 ls [])) (vxL : Int32) (vxY : Nat → Int32) (vsB : Int32) (vrN : Int32) (vrA : Int32) (vrE : Nat → Int32) (vrC : Nat → Int32) (vrF : Nat → Int32) (vtN : Int32) (vtK : Nat → Int32) (vhN : Int32) (vhW : Nat → Int64) (vhA : Nat → Int32) (vsQ : Nat → Int32) (vsU : Nat → Int32) (vmN : Int32) (vmR : Int32) (vmBN : Int32) (vmHN : Int32) (vmL : Int32) (vmLo : Nat → Int32) (vmHi : Nat → Int32) (vmC : Nat → Int32) (vmZ : Nat → Int32) (vmB : Nat → Int32) (vmT : Nat → Int64) (vmM : Nat → Int32) (vmK : Nat → Int32) (vmF : Nat → Int32) (vmX : Nat → Int32) (vmH : Nat → Int32) (vmRow : Nat → Int32) (x3 : Int32) (H : Heap) (locs : List Loc) (cl sl : Nat) (ls : Array Slot) (hw : w_L_c345 N L xs k18 vxL vxY vsB vrN vrA vrE vrC vrF vtN vtK vhN vhW vhA vsQ vsU vmN vmR vmBN vmHN vmL vmLo vmHi vmC vmZ vmB vmT vmM vmK vmF vmX vmH vmRow x3) (hcs : cl + n + 1 ≤ 1000 ∧ sl + 300 * n + 300 ≤ 300000) (hP : va_P G vwCl (wdL cI cJ cZ aX aY aS aR aE aC aF aT aK aH aW aA aQ aU aM aM1 aM2 aM3 aM4 aM6 aM8 aM9 aM10 aM11 aM12 aM13 aM15 vxL vxY vsB vrN vrA vrE vrC vrF vtN vtK vhN vhW vhA vsQ vsU vmN vmR vmBN vmHN vmL vmLo vmHi vmC vmZ vmB vmT vmM vmK vmF vmX vmH vmRow) H) (hD : va_D (fun q : Nat => s.heap.size ≤ q) (wdL cI cJ cZ aX aY aS aR aE aC aF aT aK aH aW aA aQ aU aM aM1 aM2 aM3 aM4 aM6 aM8 aM9 aM10 aM11 aM12 aM13 aM15 vxL vxY vsB vrN vrA vrE vrC vrF vtN vtK vhN vhW vhA vsQ vsU vmN vmR vmBN vmHN vmL vmLo vmHi vmC vmZ vmB vmT vmM vmK vmF vmX vmH vmRow)) (hS : va_S (fun q : Nat => s.heap.size ≤ q) s.heap H locs) (hl : lv_has ls 4 [(0, .ref b), (1, .ref aX), (2, .ref aM), (3, .int x3)]) : W p l e room_1 s m #[Value.ref b] below meth c H locs cl sl (lw_Z below #[Value.ref b] s) (F0 m 345 ls []) := by
  obtain ⟨hx, hb, hr, hml, hown, hts, hX, hbl, hlocks, hgv⟩ := id C0
  have hA : ∀ q : Nat, s.heap.size ≤ q → (fun q : Nat => s.heap.size ≤ q) q := fun _ h => h
  have hbA : ¬ (fun q : Nat => s.heap.size ≤ q) b := Nat.not_le.mpr hbl
  have hts2 : ∀ w ∈ wsL_law, w.before #[Value.ref b] s = true := fun w h => hts w (wsL_law_in w h)
  unfold w_L_c345 at hw
  refine lv_aload_n hx hb dL_law_345 rfl (lv_at hl 1 rfl) ?_
  refine kc_Vi (As := []) (rest := []) (wc := wdX cI cJ cZ aX aY aS aR aE aC aF aT aK aH aW aA aQ aU vxL vxY vsB vrN vrA vrE vrC vrF vtN vtK vhN vhW vhA vsQ vsU) (wr := wdM cI cJ cZ aM aM1 aM2 aM3 aM4 aM6 aM8 aM9 aM10 aM11 aM12 aM13 aM15 vmN vmR vmBN vmHN vmL vmLo vmHi vmC vmZ vmB vmT vmM vmK vmF vmX vmH vmRow) ⟨hx, hb, hml, hown, hts2⟩ (cwV 0 hts2 gL_law_X4_length rfl rfl rfl (by decide +kernel) ⟨Nat.le_of_ble_eq_true rfl, Nat.le_of_ble_eq_true rfl⟩) hK hN hA hP hD hS [0, 1, 2, 3, 4, 5, 6, 7, 8, 9, 10, 11, 12, 13] [14, 15, 16, 17, 18, 19, 20, 21, 22, 23, 24, 25, 26] rfl rfl (by decide) (by decide) (by decide) 0 rfl rfl (k_X4_length l G cI cJ cZ aX aY aS aR aE aC aF aT aK aH aW aA aQ aU _ N vxL vxY vsB vrN vrA vrE vrC vrF vtN vtK vhN vhW vhA vsQ vsU  _ hw) rfl hl.1 rfl (Nat.le_of_ble_eq_true rfl) dL_law_346 ⟨by show cl + 0 ≤ 600000; omega, by show sl + 0 ≤ 7302250; omega⟩ (fun r_1 u_ H locs hw hP hD hS => ?_)
  replace hP : va_P G vwCl (wdL cI cJ cZ aX aY aS aR aE aC aF aT aK aH aW aA aQ aU aM aM1 aM2 aM3 aM4 aM6 aM8 aM9 aM10 aM11 aM12 aM13 aM15 vxL vxY vsB vrN vrA vrE vrC vrF vtN vtK vhN vhW vhA vsQ vsU vmN vmR vmBN vmHN vmL vmLo vmHi vmC vmZ vmB vmT vmM vmK vmF vmX vmH vmRow) H := hP.sub [13, 14, 15, 16, 17, 18, 19, 20, 21, 22, 23, 24, 25, 26, 0, 1, 2, 3, 4, 5, 6, 7, 8, 9, 10, 11, 12] rfl
  replace hD : va_D (fun q : Nat => s.heap.size ≤ q) (wdL cI cJ cZ aX aY aS aR aE aC aF aT aK aH aW aA aQ aU aM aM1 aM2 aM3 aM4 aM6 aM8 aM9 aM10 aM11 aM12 aM13 aM15 vxL vxY vsB vrN vrA vrE vrC vrF vtN vtK vhN vhW vhA vsQ vsU vmN vmR vmBN vmHN vmL vmLo vmHi vmC vmZ vmB vmT vmM vmK vmF vmX vmH vmRow) := hD.sub [13, 14, 15, 16, 17, 18, 19, 20, 21, 22, 23, 24, 25, 26, 0, 1, 2, 3, 4, 5, 6, 7, 8, 9, 10, 11, 12] (by decide) rfl
  refine lv_aload_n hx hb dL_law_349 rfl (lv_at hl 2 rfl) ?_
  refine kc_Vi (As := []) (rest := [.int r_1]) (wc := wdM cI cJ cZ aM aM1 aM2 aM3 aM4 aM6 aM8 aM9 aM10 aM11 aM12 aM13 aM15 vmN vmR vmBN vmHN vmL vmLo vmHi vmC vmZ vmB vmT vmM vmK vmF vmX vmH vmRow) (wr := wdX cI cJ cZ aX aY aS aR aE aC aF aT aK aH aW aA aQ aU vxL vxY vsB vrN vrA vrE vrC vrF vtN vtK vhN vhW vhA vsQ vsU) ⟨hx, hb, hml, hown, hts2⟩ (cwV 0 hts2 gL_law_X5_length rfl rfl rfl (by decide +kernel) ⟨Nat.le_of_ble_eq_true rfl, Nat.le_of_ble_eq_true rfl⟩) hK hN hA hP hD hS [14, 15, 16, 17, 18, 19, 20, 21, 22, 23, 24, 25, 26] [0, 1, 2, 3, 4, 5, 6, 7, 8, 9, 10, 11, 12, 13] rfl rfl (by decide) (by decide) (by decide) 0 rfl rfl (k_X5_length l G cI cJ cZ aM aM1 aM2 aM3 aM4 aM6 aM8 aM9 aM10 aM11 aM12 aM13 aM15 _ N vmN vmR vmBN vmHN vmL vmLo vmHi vmC vmZ vmB vmT vmM vmK vmF vmX vmH vmRow  _ hw) rfl hl.1 rfl (Nat.le_of_ble_eq_true rfl) dL_law_350 ⟨by show cl + 0 + 0 ≤ 600000; omega, by show sl + 0 + 0 ≤ 7302250; omega⟩ (fun r_2 u_ H locs hw hP hD hS => ?_)
  replace hP : va_P G vwCl (wdL cI cJ cZ aX aY aS aR aE aC aF aT aK aH aW aA aQ aU aM aM1 aM2 aM3 aM4 aM6 aM8 aM9 aM10 aM11 aM12 aM13 aM15 vxL vxY vsB vrN vrA vrE vrC vrF vtN vtK vhN vhW vhA vsQ vsU vmN vmR vmBN vmHN vmL vmLo vmHi vmC vmZ vmB vmT vmM vmK vmF vmX vmH vmRow) H := hP.sub [0, 1, 2, 3, 4, 5, 6, 7, 8, 9, 10, 11, 12, 13, 14, 15, 16, 17, 18, 19, 20, 21, 22, 23, 24, 25, 26] rfl
  replace hD : va_D (fun q : Nat => s.heap.size ≤ q) (wdL cI cJ cZ aX aY aS aR aE aC aF aT aK aH aW aA aQ aU aM aM1 aM2 aM3 aM4 aM6 aM8 aM9 aM10 aM11 aM12 aM13 aM15 vxL vxY vsB vrN vrA vrE vrC vrF vtN vtK vhN vhW vhA vsQ vsU vmN vmR vmBN vmHN vmL vmLo vmHi vmC vmZ vmB vmT vmM vmK vmF vmX vmH vmRow) := hD.sub [0, 1, 2, 3, 4, 5, 6, 7, 8, 9, 10, 11, 12, 13, 14, 15, 16, 17, 18, 19, 20, 21, 22, 23, 24, 25, 26] (by decide) rfl
  refine lv_icmp_eq (tgt := 444) hx hb dL_law_353 (by decide) (fun c_3 => ?_) (fun c_3 => ?_)
  · replace hw := hw.1 c_3
    obtain ⟨x3_4, e_5⟩ : ∃ y : Int32, y = x3 + (5 : Int32) := ⟨_, rfl⟩
    replace hw := hw x3_4 e_5
    refine lv_iinc (v := x3_4) (lv' := [(3, .int x3_4), (0, .ref b), (1, .ref aX), (2, .ref aM)]) hx hb dL_law_444 hl (k := 3) rfl (by rw [e_5]; rfl) (by decide) rfl (fun ls hl => ?_)
    refine lv_goto (tgt := 18) hx hb dL_law_447 (by decide) ?_
    refine W.widen (k := cl + 1) (n := sl + 300) (by show cl + 0 + 0 ≤ _; omega) (by show sl + 0 + 0 ≤ _; omega) ?_
    exact ih vxL vxY vsB vrN vrA vrE vrC vrF vtN vtK vhN vhW vhA vsQ vsU vmN vmR vmBN vmHN vmL vmLo vmHi vmC vmZ vmB vmT vmM vmK vmF vmX vmH vmRow x3_4 _ _ (cl + 1) (sl + 300) _ hw ⟨by omega, by omega⟩ hP hD hS (lv_sub hl [1, 2, 3, 0] rfl)
  · replace hw := hw.2 c_3
    refine lv_iconst (v := (0 : Int32)) hx hb dL_law_356 (by decide) ?_
    exact hw.elim
set_option maxHeartbeats 4000000 in
set_option maxRecDepth 100000 in
theorem lw_c358 {p : Program} {e : Env} {s : State} {m : MethodId} {below : List Frame} {meth : Method} {c : Code} (l : Launch) {b L : Nat} {xs : Nat → Int32} (C0 : lw_At p s m meth c b L xs) (G : va_G) (cI cJ cZ : ClassId) (hK : va_K G vwCl (tyL cI cJ cZ) s) (hN : nw_ok s) (aX aY aS aR aE aC aF aT aK aH aW aA aQ aU aM aM1 aM2 aM3 aM4 aM6 aM8 aM9 aM10 aM11 aM12 aM13 aM15 : Nat) (N n : Nat) (k18 : Int32 → (Nat → Int32) → Int32 → Int32 → Int32 → (Nat → Int32) → (Nat → Int32) → (Nat → Int32) → Int32 → (Nat → Int32) → Int32 → (Nat → Int64) → (Nat → Int32) → (Nat → Int32) → (Nat → Int32) → Int32 → Int32 → Int32 → Int32 → Int32 → (Nat → Int32) → (Nat → Int32) → (Nat → Int32) → (Nat → Int32) → (Nat → Int32) → (Nat → Int64) → (Nat → Int32) → (Nat → Int32) → (Nat → Int32) → (Nat → Int32) → (Nat → Int32) → (Nat → Int32) → Int32 → Prop) (ih : ∀ (vxL : Int32) (vxY : Nat → Int32) (vsB : Int32) (vrN : Int32) (vrA : Int32) (vrE : Nat → Int32) (vrC : Nat → Int32) (vrF : Nat → Int32) (vtN : Int32) (vtK : Nat → Int32) (vhN : Int32) (vhW : Nat → Int64) (vhA : Nat → Int32) (vsQ : Nat → Int32) (vsU : Nat → Int32) (vmN : Int32) (vmR : Int32) (vmBN : Int32) (vmHN : Int32) (vmL : Int32) (vmLo : Nat → Int32) (vmHi : Nat → Int32) (vmC : Nat → Int32) (vmZ : Nat → Int32) (vmB : Nat → Int32) (vmT : Nat → Int64) (vmM : Nat → Int32) (vmK : Nat → Int32) (vmF : Nat → Int32) (vmX : Nat → Int32) (vmH : Nat → Int32) (vmRow : Nat → Int32) (x3 : Int32) (H : Heap) (locs : List Loc) (cl sl : Nat) (ls : Array Slot), k18 vxL vxY vsB vrN vrA vrE vrC vrF vtN vtK vhN vhW vhA vsQ vsU vmN vmR vmBN vmHN vmL vmLo vmHi vmC vmZ vmB vmT vmM vmK vmF vmX vmH vmRow x3 → cl + n ≤ 1000 ∧ sl + 300 * n ≤ 300000 → va_P G vwCl (wdL cI cJ cZ aX aY aS aR aE aC aF aT aK aH aW aA aQ aU aM aM1 aM2 aM3 aM4 aM6 aM8 aM9 aM10 aM11 aM12 aM13 aM15 vxL vxY vsB vrN vrA vrE vrC vrF vtN vtK vhN vhW vhA vsQ vsU vmN vmR vmBN vmHN vmL vmLo vmHi vmC vmZ vmB vmT vmM vmK vmF vmX vmH vmRow) H → va_D (fun q : Nat => s.heap.size ≤ q) (wdL cI cJ cZ aX aY aS aR aE aC aF aT aK aH aW aA aQ aU aM aM1 aM2 aM3 aM4 aM6 aM8 aM9 aM10 aM11 aM12 aM13 aM15 vxL vxY vsB vrN vrA vrE vrC vrF vtN vtK vhN vhW vhA vsQ vsU vmN vmR vmBN vmHN vmL vmLo vmHi vmC vmZ vmB vmT vmM vmK vmF vmX vmH vmRow) → va_S (fun q : Nat => s.heap.size ≤ q) s.heap H locs → lv_has ls 4 [(0, .ref b), (1, .ref aX), (2, .ref aM), (3, .int x3)] → W p l e room_1 s m #[Value.ref b] below meth c H locs cl sl (lw_Z below #[Value.ref b] s) (F0 m 18 ls [])) (vxL : Int32) (vxY : Nat → Int32) (vsB : Int32) (vrN : Int32) (vrA : Int32) (vrE : Nat → Int32) (vrC : Nat → Int32) (vrF : Nat → Int32) (vtN : Int32) (vtK : Nat → Int32) (vhN : Int32) (vhW : Nat → Int64) (vhA : Nat → Int32) (vsQ : Nat → Int32) (vsU : Nat → Int32) (vmN : Int32) (vmR : Int32) (vmBN : Int32) (vmHN : Int32) (vmL : Int32) (vmLo : Nat → Int32) (vmHi : Nat → Int32) (vmC : Nat → Int32) (vmZ : Nat → Int32) (vmB : Nat → Int32) (vmT : Nat → Int64) (vmM : Nat → Int32) (vmK : Nat → Int32) (vmF : Nat → Int32) (vmX : Nat → Int32) (vmH : Nat → Int32) (vmRow : Nat → Int32) (x3 : Int32) (H : Heap) (locs : List Loc) (cl sl : Nat) (ls : Array Slot) (hw : w_L_c358 N L xs k18 vxL vxY vsB vrN vrA vrE vrC vrF vtN vtK vhN vhW vhA vsQ vsU vmN vmR vmBN vmHN vmL vmLo vmHi vmC vmZ vmB vmT vmM vmK vmF vmX vmH vmRow x3) (hcs : cl + n + 1 ≤ 1000 ∧ sl + 300 * n + 300 ≤ 300000) (hP : va_P G vwCl (wdL cI cJ cZ aX aY aS aR aE aC aF aT aK aH aW aA aQ aU aM aM1 aM2 aM3 aM4 aM6 aM8 aM9 aM10 aM11 aM12 aM13 aM15 vxL vxY vsB vrN vrA vrE vrC vrF vtN vtK vhN vhW vhA vsQ vsU vmN vmR vmBN vmHN vmL vmLo vmHi vmC vmZ vmB vmT vmM vmK vmF vmX vmH vmRow) H) (hD : va_D (fun q : Nat => s.heap.size ≤ q) (wdL cI cJ cZ aX aY aS aR aE aC aF aT aK aH aW aA aQ aU aM aM1 aM2 aM3 aM4 aM6 aM8 aM9 aM10 aM11 aM12 aM13 aM15 vxL vxY vsB vrN vrA vrE vrC vrF vtN vtK vhN vhW vhA vsQ vsU vmN vmR vmBN vmHN vmL vmLo vmHi vmC vmZ vmB vmT vmM vmK vmF vmX vmH vmRow)) (hS : va_S (fun q : Nat => s.heap.size ≤ q) s.heap H locs) (hl : lv_has ls 4 [(0, .ref b), (1, .ref aX), (2, .ref aM), (3, .int x3)]) : W p l e room_1 s m #[Value.ref b] below meth c H locs cl sl (lw_Z below #[Value.ref b] s) (F0 m 358 ls []) := by
  obtain ⟨hx, hb, hr, hml, hown, hts, hX, hbl, hlocks, hgv⟩ := id C0
  have hA : ∀ q : Nat, s.heap.size ≤ q → (fun q : Nat => s.heap.size ≤ q) q := fun _ h => h
  have hbA : ¬ (fun q : Nat => s.heap.size ≤ q) b := Nat.not_le.mpr hbl
  have hts2 : ∀ w ∈ wsL_law, w.before #[Value.ref b] s = true := fun w h => hts w (wsL_law_in w h)
  unfold w_L_c358 at hw
  refine lv_aload_n hx hb dL_law_358 rfl (lv_at hl 1 rfl) ?_
  refine lv_aload_n hx hb dL_law_359 rfl (lv_at hl 0 rfl) ?_
  refine lv_iload_n hx hb dL_law_360 rfl (lv_at hl 3 rfl) ?_
  refine lv_iconst (v := (1 : Int32)) hx hb dL_law_361 (by decide) ?_
  refine lv_iadd hx hb dL_law_362 ?_
  have h_1 := hw.1
  replace hw := hw.2
  refine va_sld hx hb hX hbl hbA hS h_1 dL_law_363 ?_
  refine kc_Vi (As := [.int (xs (x3 + (1 : Int32)).toNatClampNeg)]) (rest := []) (wc := wdX cI cJ cZ aX aY aS aR aE aC aF aT aK aH aW aA aQ aU vxL vxY vsB vrN vrA vrE vrC vrF vtN vtK vhN vhW vhA vsQ vsU) (wr := wdM cI cJ cZ aM aM1 aM2 aM3 aM4 aM6 aM8 aM9 aM10 aM11 aM12 aM13 aM15 vmN vmR vmBN vmHN vmL vmLo vmHi vmC vmZ vmB vmT vmM vmK vmF vmX vmH vmRow) ⟨hx, hb, hml, hown, hts2⟩ (cwV 1 hts2 gL_law_X4_node rfl rfl rfl (by decide +kernel) ⟨Nat.le_of_ble_eq_true rfl, Nat.le_of_ble_eq_true rfl⟩) hK hN hA hP hD hS [0, 1, 2, 3, 4, 5, 6, 7, 8, 9, 10, 11, 12, 13] [14, 15, 16, 17, 18, 19, 20, 21, 22, 23, 24, 25, 26] rfl rfl (by decide) (by decide) (by decide) 0 rfl rfl (k_X4_node l G cI cJ cZ aX aY aS aR aE aC aF aT aK aH aW aA aQ aU _ N vxL vxY vsB vrN vrA vrE vrC vrF vtN vtK vhN vhW vhA vsQ vsU (xs (x3 + (1 : Int32)).toNatClampNeg) _ hw) rfl hl.1 rfl (Nat.le_of_ble_eq_true rfl) dL_law_364 ⟨by show cl + 0 ≤ 600000; omega, by show sl + 0 ≤ 7302250; omega⟩ (fun r_2 u_ H locs hw hP hD hS => ?_)
  replace hP : va_P G vwCl (wdL cI cJ cZ aX aY aS aR aE aC aF aT aK aH aW aA aQ aU aM aM1 aM2 aM3 aM4 aM6 aM8 aM9 aM10 aM11 aM12 aM13 aM15 vxL vxY vsB vrN vrA vrE vrC vrF vtN vtK vhN vhW vhA vsQ vsU vmN vmR vmBN vmHN vmL vmLo vmHi vmC vmZ vmB vmT vmM vmK vmF vmX vmH vmRow) H := hP.sub [13, 14, 15, 16, 17, 18, 19, 20, 21, 22, 23, 24, 25, 26, 0, 1, 2, 3, 4, 5, 6, 7, 8, 9, 10, 11, 12] rfl
  replace hD : va_D (fun q : Nat => s.heap.size ≤ q) (wdL cI cJ cZ aX aY aS aR aE aC aF aT aK aH aW aA aQ aU aM aM1 aM2 aM3 aM4 aM6 aM8 aM9 aM10 aM11 aM12 aM13 aM15 vxL vxY vsB vrN vrA vrE vrC vrF vtN vtK vhN vhW vhA vsQ vsU vmN vmR vmBN vmHN vmL vmLo vmHi vmC vmZ vmB vmT vmM vmK vmF vmX vmH vmRow) := hD.sub [13, 14, 15, 16, 17, 18, 19, 20, 21, 22, 23, 24, 25, 26, 0, 1, 2, 3, 4, 5, 6, 7, 8, 9, 10, 11, 12] (by decide) rfl
  refine lv_aload_n hx hb dL_law_367 rfl (lv_at hl 2 rfl) ?_
  refine lv_aload_n hx hb dL_law_368 rfl (lv_at hl 0 rfl) ?_
  refine lv_iload_n hx hb dL_law_369 rfl (lv_at hl 3 rfl) ?_
  refine lv_iconst (v := (1 : Int32)) hx hb dL_law_370 (by decide) ?_
  refine lv_iadd hx hb dL_law_371 ?_
  refine va_sld hx hb hX hbl hbA hS h_1 dL_law_372 ?_
  refine kc_Vi (As := [.int (xs (x3 + (1 : Int32)).toNatClampNeg)]) (rest := [.int r_2]) (wc := wdM cI cJ cZ aM aM1 aM2 aM3 aM4 aM6 aM8 aM9 aM10 aM11 aM12 aM13 aM15 vmN vmR vmBN vmHN vmL vmLo vmHi vmC vmZ vmB vmT vmM vmK vmF vmX vmH vmRow) (wr := wdX cI cJ cZ aX aY aS aR aE aC aF aT aK aH aW aA aQ aU vxL vxY vsB vrN vrA vrE vrC vrF vtN vtK vhN vhW vhA vsQ vsU) ⟨hx, hb, hml, hown, hts2⟩ (cwV 1 hts2 gL_law_X5_node rfl rfl rfl (by decide +kernel) ⟨Nat.le_of_ble_eq_true rfl, Nat.le_of_ble_eq_true rfl⟩) hK hN hA hP hD hS [14, 15, 16, 17, 18, 19, 20, 21, 22, 23, 24, 25, 26] [0, 1, 2, 3, 4, 5, 6, 7, 8, 9, 10, 11, 12, 13] rfl rfl (by decide) (by decide) (by decide) 0 rfl rfl (k_X5_node l G cI cJ cZ aM aM1 aM2 aM3 aM4 aM6 aM8 aM9 aM10 aM11 aM12 aM13 aM15 _ N vmN vmR vmBN vmHN vmL vmLo vmHi vmC vmZ vmB vmT vmM vmK vmF vmX vmH vmRow (xs (x3 + (1 : Int32)).toNatClampNeg) _ hw) rfl hl.1 rfl (Nat.le_of_ble_eq_true rfl) dL_law_373 ⟨by show cl + 0 + 0 ≤ 600000; omega, by show sl + 0 + 0 ≤ 7302250; omega⟩ (fun r_3 u_ H locs hw hP hD hS => ?_)
  replace hP : va_P G vwCl (wdL cI cJ cZ aX aY aS aR aE aC aF aT aK aH aW aA aQ aU aM aM1 aM2 aM3 aM4 aM6 aM8 aM9 aM10 aM11 aM12 aM13 aM15 vxL vxY vsB vrN vrA vrE vrC vrF vtN vtK vhN vhW vhA vsQ vsU vmN vmR vmBN vmHN vmL vmLo vmHi vmC vmZ vmB vmT vmM vmK vmF vmX vmH vmRow) H := hP.sub [0, 1, 2, 3, 4, 5, 6, 7, 8, 9, 10, 11, 12, 13, 14, 15, 16, 17, 18, 19, 20, 21, 22, 23, 24, 25, 26] rfl
  replace hD : va_D (fun q : Nat => s.heap.size ≤ q) (wdL cI cJ cZ aX aY aS aR aE aC aF aT aK aH aW aA aQ aU aM aM1 aM2 aM3 aM4 aM6 aM8 aM9 aM10 aM11 aM12 aM13 aM15 vxL vxY vsB vrN vrA vrE vrC vrF vtN vtK vhN vhW vhA vsQ vsU vmN vmR vmBN vmHN vmL vmLo vmHi vmC vmZ vmB vmT vmM vmK vmF vmX vmH vmRow) := hD.sub [0, 1, 2, 3, 4, 5, 6, 7, 8, 9, 10, 11, 12, 13, 14, 15, 16, 17, 18, 19, 20, 21, 22, 23, 24, 25, 26] (by decide) rfl
  refine lv_icmp_eq (tgt := 444) hx hb dL_law_376 (by decide) (fun c_4 => ?_) (fun c_4 => ?_)
  · replace hw := hw.1 c_4
    obtain ⟨x3_5, e_6⟩ : ∃ y : Int32, y = x3 + (5 : Int32) := ⟨_, rfl⟩
    replace hw := hw x3_5 e_6
    refine lv_iinc (v := x3_5) (lv' := [(3, .int x3_5), (0, .ref b), (1, .ref aX), (2, .ref aM)]) hx hb dL_law_444 hl (k := 3) rfl (by rw [e_6]; rfl) (by decide) rfl (fun ls hl => ?_)
    refine lv_goto (tgt := 18) hx hb dL_law_447 (by decide) ?_
    refine W.widen (k := cl + 1) (n := sl + 300) (by show cl + 0 + 0 ≤ _; omega) (by show sl + 0 + 0 ≤ _; omega) ?_
    exact ih vxL vxY vsB vrN vrA vrE vrC vrF vtN vtK vhN vhW vhA vsQ vsU vmN vmR vmBN vmHN vmL vmLo vmHi vmC vmZ vmB vmT vmM vmK vmF vmX vmH vmRow x3_5 _ _ (cl + 1) (sl + 300) _ hw ⟨by omega, by omega⟩ hP hD hS (lv_sub hl [1, 2, 3, 0] rfl)
  · replace hw := hw.2 c_4
    refine lv_iconst (v := (0 : Int32)) hx hb dL_law_379 (by decide) ?_
    exact hw.elim
set_option maxHeartbeats 4000000 in
set_option maxRecDepth 100000 in
theorem lw_c381 {p : Program} {e : Env} {s : State} {m : MethodId} {below : List Frame} {meth : Method} {c : Code} (l : Launch) {b L : Nat} {xs : Nat → Int32} (C0 : lw_At p s m meth c b L xs) (G : va_G) (cI cJ cZ : ClassId) (hK : va_K G vwCl (tyL cI cJ cZ) s) (hN : nw_ok s) (aX aY aS aR aE aC aF aT aK aH aW aA aQ aU aM aM1 aM2 aM3 aM4 aM6 aM8 aM9 aM10 aM11 aM12 aM13 aM15 : Nat) (N n : Nat) (k18 : Int32 → (Nat → Int32) → Int32 → Int32 → Int32 → (Nat → Int32) → (Nat → Int32) → (Nat → Int32) → Int32 → (Nat → Int32) → Int32 → (Nat → Int64) → (Nat → Int32) → (Nat → Int32) → (Nat → Int32) → Int32 → Int32 → Int32 → Int32 → Int32 → (Nat → Int32) → (Nat → Int32) → (Nat → Int32) → (Nat → Int32) → (Nat → Int32) → (Nat → Int64) → (Nat → Int32) → (Nat → Int32) → (Nat → Int32) → (Nat → Int32) → (Nat → Int32) → (Nat → Int32) → Int32 → Prop) (ih : ∀ (vxL : Int32) (vxY : Nat → Int32) (vsB : Int32) (vrN : Int32) (vrA : Int32) (vrE : Nat → Int32) (vrC : Nat → Int32) (vrF : Nat → Int32) (vtN : Int32) (vtK : Nat → Int32) (vhN : Int32) (vhW : Nat → Int64) (vhA : Nat → Int32) (vsQ : Nat → Int32) (vsU : Nat → Int32) (vmN : Int32) (vmR : Int32) (vmBN : Int32) (vmHN : Int32) (vmL : Int32) (vmLo : Nat → Int32) (vmHi : Nat → Int32) (vmC : Nat → Int32) (vmZ : Nat → Int32) (vmB : Nat → Int32) (vmT : Nat → Int64) (vmM : Nat → Int32) (vmK : Nat → Int32) (vmF : Nat → Int32) (vmX : Nat → Int32) (vmH : Nat → Int32) (vmRow : Nat → Int32) (x3 : Int32) (H : Heap) (locs : List Loc) (cl sl : Nat) (ls : Array Slot), k18 vxL vxY vsB vrN vrA vrE vrC vrF vtN vtK vhN vhW vhA vsQ vsU vmN vmR vmBN vmHN vmL vmLo vmHi vmC vmZ vmB vmT vmM vmK vmF vmX vmH vmRow x3 → cl + n ≤ 1000 ∧ sl + 300 * n ≤ 300000 → va_P G vwCl (wdL cI cJ cZ aX aY aS aR aE aC aF aT aK aH aW aA aQ aU aM aM1 aM2 aM3 aM4 aM6 aM8 aM9 aM10 aM11 aM12 aM13 aM15 vxL vxY vsB vrN vrA vrE vrC vrF vtN vtK vhN vhW vhA vsQ vsU vmN vmR vmBN vmHN vmL vmLo vmHi vmC vmZ vmB vmT vmM vmK vmF vmX vmH vmRow) H → va_D (fun q : Nat => s.heap.size ≤ q) (wdL cI cJ cZ aX aY aS aR aE aC aF aT aK aH aW aA aQ aU aM aM1 aM2 aM3 aM4 aM6 aM8 aM9 aM10 aM11 aM12 aM13 aM15 vxL vxY vsB vrN vrA vrE vrC vrF vtN vtK vhN vhW vhA vsQ vsU vmN vmR vmBN vmHN vmL vmLo vmHi vmC vmZ vmB vmT vmM vmK vmF vmX vmH vmRow) → va_S (fun q : Nat => s.heap.size ≤ q) s.heap H locs → lv_has ls 4 [(0, .ref b), (1, .ref aX), (2, .ref aM), (3, .int x3)] → W p l e room_1 s m #[Value.ref b] below meth c H locs cl sl (lw_Z below #[Value.ref b] s) (F0 m 18 ls [])) (vxL : Int32) (vxY : Nat → Int32) (vsB : Int32) (vrN : Int32) (vrA : Int32) (vrE : Nat → Int32) (vrC : Nat → Int32) (vrF : Nat → Int32) (vtN : Int32) (vtK : Nat → Int32) (vhN : Int32) (vhW : Nat → Int64) (vhA : Nat → Int32) (vsQ : Nat → Int32) (vsU : Nat → Int32) (vmN : Int32) (vmR : Int32) (vmBN : Int32) (vmHN : Int32) (vmL : Int32) (vmLo : Nat → Int32) (vmHi : Nat → Int32) (vmC : Nat → Int32) (vmZ : Nat → Int32) (vmB : Nat → Int32) (vmT : Nat → Int64) (vmM : Nat → Int32) (vmK : Nat → Int32) (vmF : Nat → Int32) (vmX : Nat → Int32) (vmH : Nat → Int32) (vmRow : Nat → Int32) (x3 : Int32) (H : Heap) (locs : List Loc) (cl sl : Nat) (ls : Array Slot) (hw : w_L_c381 N L xs k18 vxL vxY vsB vrN vrA vrE vrC vrF vtN vtK vhN vhW vhA vsQ vsU vmN vmR vmBN vmHN vmL vmLo vmHi vmC vmZ vmB vmT vmM vmK vmF vmX vmH vmRow x3) (hcs : cl + n + 1 ≤ 1000 ∧ sl + 300 * n + 300 ≤ 300000) (hP : va_P G vwCl (wdL cI cJ cZ aX aY aS aR aE aC aF aT aK aH aW aA aQ aU aM aM1 aM2 aM3 aM4 aM6 aM8 aM9 aM10 aM11 aM12 aM13 aM15 vxL vxY vsB vrN vrA vrE vrC vrF vtN vtK vhN vhW vhA vsQ vsU vmN vmR vmBN vmHN vmL vmLo vmHi vmC vmZ vmB vmT vmM vmK vmF vmX vmH vmRow) H) (hD : va_D (fun q : Nat => s.heap.size ≤ q) (wdL cI cJ cZ aX aY aS aR aE aC aF aT aK aH aW aA aQ aU aM aM1 aM2 aM3 aM4 aM6 aM8 aM9 aM10 aM11 aM12 aM13 aM15 vxL vxY vsB vrN vrA vrE vrC vrF vtN vtK vhN vhW vhA vsQ vsU vmN vmR vmBN vmHN vmL vmLo vmHi vmC vmZ vmB vmT vmM vmK vmF vmX vmH vmRow)) (hS : va_S (fun q : Nat => s.heap.size ≤ q) s.heap H locs) (hl : lv_has ls 4 [(0, .ref b), (1, .ref aX), (2, .ref aM), (3, .int x3)]) : W p l e room_1 s m #[Value.ref b] below meth c H locs cl sl (lw_Z below #[Value.ref b] s) (F0 m 381 ls []) := by
  obtain ⟨hx, hb, hr, hml, hown, hts, hX, hbl, hlocks, hgv⟩ := id C0
  have hA : ∀ q : Nat, s.heap.size ≤ q → (fun q : Nat => s.heap.size ≤ q) q := fun _ h => h
  have hbA : ¬ (fun q : Nat => s.heap.size ≤ q) b := Nat.not_le.mpr hbl
  have hts2 : ∀ w ∈ wsL_law, w.before #[Value.ref b] s = true := fun w h => hts w (wsL_law_in w h)
  unfold w_L_c381 at hw
  refine lv_aload_n hx hb dL_law_381 rfl (lv_at hl 1 rfl) ?_
  refine lv_aload_n hx hb dL_law_382 rfl (lv_at hl 0 rfl) ?_
  refine lv_iload_n hx hb dL_law_383 rfl (lv_at hl 3 rfl) ?_
  refine lv_iconst (v := (1 : Int32)) hx hb dL_law_384 (by decide) ?_
  refine lv_iadd hx hb dL_law_385 ?_
  have h_1 := hw.1
  replace hw := hw.2
  refine va_sld hx hb hX hbl hbA hS h_1 dL_law_386 ?_
  refine lv_aload_n hx hb dL_law_387 rfl (lv_at hl 0 rfl) ?_
  refine lv_iload_n hx hb dL_law_388 rfl (lv_at hl 3 rfl) ?_
  refine lv_iconst (v := (2 : Int32)) hx hb dL_law_389 (by decide) ?_
  refine lv_iadd hx hb dL_law_390 ?_
  have h_2 := hw.1
  replace hw := hw.2
  refine va_sld hx hb hX hbl hbA hS h_2 dL_law_391 ?_
  refine lv_i2l hx hb dL_law_392 rfl ?_
  refine lv_bipush (v := (32 : Int32)) hx hb dL_law_393 (by decide) ?_
  refine lv_lshl hx hb dL_law_395 rfl ?_
  refine lv_aload_n hx hb dL_law_396 rfl (lv_at hl 0 rfl) ?_
  refine lv_iload_n hx hb dL_law_397 rfl (lv_at hl 3 rfl) ?_
  refine lv_iconst (v := (3 : Int32)) hx hb dL_law_398 (by decide) ?_
  refine lv_iadd hx hb dL_law_399 ?_
  have h_3 := hw.1
  replace hw := hw.2
  refine va_sld hx hb hX hbl hbA hS h_3 dL_law_400 ?_
  refine lv_i2l hx hb dL_law_401 rfl ?_
  refine lv_ldc2 (v := (4294967295 : Int64)) hx hb hown (hts2 _ (List.mem_of_getElem? (i := 6) rfl)) dL_law_402 ?_
  refine lv_land hx hb dL_law_405 ?_
  refine lv_lor hx hb dL_law_406 ?_
  refine kc_Vi (As := [.int (xs (x3 + (1 : Int32)).toNatClampNeg), .long ((((xs (x3 + (2 : Int32)).toNatClampNeg).toInt64) <<< ((32 : Int32).toInt64 &&& 63)) ||| (((xs (x3 + (3 : Int32)).toNatClampNeg).toInt64) &&& (4294967295 : Int64)))]) (rest := []) (wc := wdX cI cJ cZ aX aY aS aR aE aC aF aT aK aH aW aA aQ aU vxL vxY vsB vrN vrA vrE vrC vrF vtN vtK vhN vhW vhA vsQ vsU) (wr := wdM cI cJ cZ aM aM1 aM2 aM3 aM4 aM6 aM8 aM9 aM10 aM11 aM12 aM13 aM15 vmN vmR vmBN vmHN vmL vmLo vmHi vmC vmZ vmB vmT vmM vmK vmF vmX vmH vmRow) ⟨hx, hb, hml, hown, hts2⟩ (cwV 2 hts2 gL_law_X4_within rfl rfl rfl (by decide +kernel) ⟨Nat.le_of_ble_eq_true rfl, Nat.le_of_ble_eq_true rfl⟩) hK hN hA hP hD hS [0, 1, 2, 3, 4, 5, 6, 7, 8, 9, 10, 11, 12, 13] [14, 15, 16, 17, 18, 19, 20, 21, 22, 23, 24, 25, 26] rfl rfl (by decide) (by decide) (by decide) 0 rfl rfl (k_X4_within l G cI cJ cZ aX aY aS aR aE aC aF aT aK aH aW aA aQ aU _ N vxL vxY vsB vrN vrA vrE vrC vrF vtN vtK vhN vhW vhA vsQ vsU (xs (x3 + (1 : Int32)).toNatClampNeg) ((((xs (x3 + (2 : Int32)).toNatClampNeg).toInt64) <<< ((32 : Int32).toInt64 &&& 63)) ||| (((xs (x3 + (3 : Int32)).toNatClampNeg).toInt64) &&& (4294967295 : Int64))) _ hw) rfl hl.1 rfl (Nat.le_of_ble_eq_true rfl) dL_law_407 ⟨by show cl + 0 ≤ 600000; omega, by show sl + 0 ≤ 7302250; omega⟩ (fun r_4 u_ H locs hw hP hD hS => ?_)
  obtain ⟨vsB_5, vhN_6, vhW_7, vhA_8, vsQ_9, vsU_10⟩ := u_
  replace hP : va_P G vwCl (wdL cI cJ cZ aX aY aS aR aE aC aF aT aK aH aW aA aQ aU aM aM1 aM2 aM3 aM4 aM6 aM8 aM9 aM10 aM11 aM12 aM13 aM15 vxL vxY vsB_5 vrN vrA vrE vrC vrF vtN vtK vhN_6 vhW_7 vhA_8 vsQ_9 vsU_10 vmN vmR vmBN vmHN vmL vmLo vmHi vmC vmZ vmB vmT vmM vmK vmF vmX vmH vmRow) H := hP.sub [13, 14, 15, 16, 17, 18, 19, 20, 21, 22, 23, 24, 25, 26, 0, 1, 2, 3, 4, 5, 6, 7, 8, 9, 10, 11, 12] rfl
  replace hD : va_D (fun q : Nat => s.heap.size ≤ q) (wdL cI cJ cZ aX aY aS aR aE aC aF aT aK aH aW aA aQ aU aM aM1 aM2 aM3 aM4 aM6 aM8 aM9 aM10 aM11 aM12 aM13 aM15 vxL vxY vsB_5 vrN vrA vrE vrC vrF vtN vtK vhN_6 vhW_7 vhA_8 vsQ_9 vsU_10 vmN vmR vmBN vmHN vmL vmLo vmHi vmC vmZ vmB vmT vmM vmK vmF vmX vmH vmRow) := hD.sub [13, 14, 15, 16, 17, 18, 19, 20, 21, 22, 23, 24, 25, 26, 0, 1, 2, 3, 4, 5, 6, 7, 8, 9, 10, 11, 12] (by decide) rfl
  refine lv_aload_n hx hb dL_law_410 rfl (lv_at hl 2 rfl) ?_
  refine lv_aload_n hx hb dL_law_411 rfl (lv_at hl 0 rfl) ?_
  refine lv_iload_n hx hb dL_law_412 rfl (lv_at hl 3 rfl) ?_
  refine lv_iconst (v := (1 : Int32)) hx hb dL_law_413 (by decide) ?_
  refine lv_iadd hx hb dL_law_414 ?_
  refine va_sld hx hb hX hbl hbA hS h_1 dL_law_415 ?_
  refine lv_aload_n hx hb dL_law_416 rfl (lv_at hl 0 rfl) ?_
  refine lv_iload_n hx hb dL_law_417 rfl (lv_at hl 3 rfl) ?_
  refine lv_iconst (v := (2 : Int32)) hx hb dL_law_418 (by decide) ?_
  refine lv_iadd hx hb dL_law_419 ?_
  refine va_sld hx hb hX hbl hbA hS h_2 dL_law_420 ?_
  refine lv_i2l hx hb dL_law_421 rfl ?_
  refine lv_bipush (v := (32 : Int32)) hx hb dL_law_422 (by decide) ?_
  refine lv_lshl hx hb dL_law_424 rfl ?_
  refine lv_aload_n hx hb dL_law_425 rfl (lv_at hl 0 rfl) ?_
  refine lv_iload_n hx hb dL_law_426 rfl (lv_at hl 3 rfl) ?_
  refine lv_iconst (v := (3 : Int32)) hx hb dL_law_427 (by decide) ?_
  refine lv_iadd hx hb dL_law_428 ?_
  refine va_sld hx hb hX hbl hbA hS h_3 dL_law_429 ?_
  refine lv_i2l hx hb dL_law_430 rfl ?_
  refine lv_ldc2 (v := (4294967295 : Int64)) hx hb hown (hts2 _ (List.mem_of_getElem? (i := 6) rfl)) dL_law_431 ?_
  refine lv_land hx hb dL_law_434 ?_
  refine lv_lor hx hb dL_law_435 ?_
  refine kc_Vi (As := [.int (xs (x3 + (1 : Int32)).toNatClampNeg), .long ((((xs (x3 + (2 : Int32)).toNatClampNeg).toInt64) <<< ((32 : Int32).toInt64 &&& 63)) ||| (((xs (x3 + (3 : Int32)).toNatClampNeg).toInt64) &&& (4294967295 : Int64)))]) (rest := [.int r_4]) (wc := wdM cI cJ cZ aM aM1 aM2 aM3 aM4 aM6 aM8 aM9 aM10 aM11 aM12 aM13 aM15 vmN vmR vmBN vmHN vmL vmLo vmHi vmC vmZ vmB vmT vmM vmK vmF vmX vmH vmRow) (wr := wdX cI cJ cZ aX aY aS aR aE aC aF aT aK aH aW aA aQ aU vxL vxY vsB_5 vrN vrA vrE vrC vrF vtN vtK vhN_6 vhW_7 vhA_8 vsQ_9 vsU_10) ⟨hx, hb, hml, hown, hts2⟩ (cwV 2 hts2 gL_law_X5_within rfl rfl rfl (by decide +kernel) ⟨Nat.le_of_ble_eq_true rfl, Nat.le_of_ble_eq_true rfl⟩) hK hN hA hP hD hS [14, 15, 16, 17, 18, 19, 20, 21, 22, 23, 24, 25, 26] [0, 1, 2, 3, 4, 5, 6, 7, 8, 9, 10, 11, 12, 13] rfl rfl (by decide) (by decide) (by decide) 0 rfl rfl (k_X5_within l G cI cJ cZ aM aM1 aM2 aM3 aM4 aM6 aM8 aM9 aM10 aM11 aM12 aM13 aM15 _ N vmN vmR vmBN vmHN vmL vmLo vmHi vmC vmZ vmB vmT vmM vmK vmF vmX vmH vmRow (xs (x3 + (1 : Int32)).toNatClampNeg) ((((xs (x3 + (2 : Int32)).toNatClampNeg).toInt64) <<< ((32 : Int32).toInt64 &&& 63)) ||| (((xs (x3 + (3 : Int32)).toNatClampNeg).toInt64) &&& (4294967295 : Int64))) _ hw) rfl hl.1 rfl (Nat.le_of_ble_eq_true rfl) dL_law_436 ⟨by show cl + 0 + 1 ≤ 600000; omega, by show sl + 0 + 300 ≤ 7302250; omega⟩ (fun r_11 u_ H locs hw hP hD hS => ?_)
  obtain ⟨vmHN_12, vmT_13, vmM_14, vmK_15, vmF_16, vmX_17, vmH_18⟩ := u_
  replace hP : va_P G vwCl (wdL cI cJ cZ aX aY aS aR aE aC aF aT aK aH aW aA aQ aU aM aM1 aM2 aM3 aM4 aM6 aM8 aM9 aM10 aM11 aM12 aM13 aM15 vxL vxY vsB_5 vrN vrA vrE vrC vrF vtN vtK vhN_6 vhW_7 vhA_8 vsQ_9 vsU_10 vmN vmR vmBN vmHN_12 vmL vmLo vmHi vmC vmZ vmB vmT_13 vmM_14 vmK_15 vmF_16 vmX_17 vmH_18 vmRow) H := hP.sub [0, 1, 2, 3, 4, 5, 6, 7, 8, 9, 10, 11, 12, 13, 14, 15, 16, 17, 18, 19, 20, 21, 22, 23, 24, 25, 26] rfl
  replace hD : va_D (fun q : Nat => s.heap.size ≤ q) (wdL cI cJ cZ aX aY aS aR aE aC aF aT aK aH aW aA aQ aU aM aM1 aM2 aM3 aM4 aM6 aM8 aM9 aM10 aM11 aM12 aM13 aM15 vxL vxY vsB_5 vrN vrA vrE vrC vrF vtN vtK vhN_6 vhW_7 vhA_8 vsQ_9 vsU_10 vmN vmR vmBN vmHN_12 vmL vmLo vmHi vmC vmZ vmB vmT_13 vmM_14 vmK_15 vmF_16 vmX_17 vmH_18 vmRow) := hD.sub [0, 1, 2, 3, 4, 5, 6, 7, 8, 9, 10, 11, 12, 13, 14, 15, 16, 17, 18, 19, 20, 21, 22, 23, 24, 25, 26] (by decide) rfl
  refine lv_icmp_eq (tgt := 444) hx hb dL_law_439 (by decide) (fun c_19 => ?_) (fun c_19 => ?_)
  · replace hw := hw.1 c_19
    obtain ⟨x3_20, e_21⟩ : ∃ y : Int32, y = x3 + (5 : Int32) := ⟨_, rfl⟩
    replace hw := hw x3_20 e_21
    refine lv_iinc (v := x3_20) (lv' := [(3, .int x3_20), (0, .ref b), (1, .ref aX), (2, .ref aM)]) hx hb dL_law_444 hl (k := 3) rfl (by rw [e_21]; rfl) (by decide) rfl (fun ls hl => ?_)
    refine lv_goto (tgt := 18) hx hb dL_law_447 (by decide) ?_
    refine W.widen (k := cl + 1) (n := sl + 300) (by show cl + 0 + 1 ≤ _; omega) (by show sl + 0 + 300 ≤ _; omega) ?_
    exact ih vxL vxY vsB_5 vrN vrA vrE vrC vrF vtN vtK vhN_6 vhW_7 vhA_8 vsQ_9 vsU_10 vmN vmR vmBN vmHN_12 vmL vmLo vmHi vmC vmZ vmB vmT_13 vmM_14 vmK_15 vmF_16 vmX_17 vmH_18 vmRow x3_20 _ _ (cl + 1) (sl + 300) _ hw ⟨by omega, by omega⟩ hP hD hS (lv_sub hl [1, 2, 3, 0] rfl)
  · replace hw := hw.2 c_19
    refine lv_iconst (v := (0 : Int32)) hx hb dL_law_442 (by decide) ?_
    exact hw.elim
