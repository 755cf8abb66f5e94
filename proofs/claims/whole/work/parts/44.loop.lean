set_option maxHeartbeats 4000000 in
set_option maxRecDepth 100000 in
theorem lw_loop {p : Program} {e : Env} {s : State} {m : MethodId} {below : List Frame} {meth : Method} {c : Code} (l : Launch) {b L : Nat} {xs : Nat → Int32} (C0 : lw_At p s m meth c b L xs) (G : va_G) (cI cJ cZ : ClassId) (hK : va_K G vwCl (tyL cI cJ cZ) s) (hN : nw_ok s) (aX aY aS aR aE aC aF aT aK aH aW aA aQ aU aM aM1 aM2 aM3 aM4 aM6 aM8 aM9 aM10 aM11 aM12 aM13 aM15 : Nat) (N : Nat) : ∀ (n : Nat) (vxL : Int32) (vxY : Nat → Int32) (vsB : Int32) (vrN : Int32) (vrA : Int32) (vrE : Nat → Int32) (vrC : Nat → Int32) (vrF : Nat → Int32) (vtN : Int32) (vtK : Nat → Int32) (vhN : Int32) (vhW : Nat → Int64) (vhA : Nat → Int32) (vsQ : Nat → Int32) (vsU : Nat → Int32) (vmN : Int32) (vmR : Int32) (vmBN : Int32) (vmHN : Int32) (vmL : Int32) (vmLo : Nat → Int32) (vmHi : Nat → Int32) (vmC : Nat → Int32) (vmZ : Nat → Int32) (vmB : Nat → Int32) (vmT : Nat → Int64) (vmM : Nat → Int32) (vmK : Nat → Int32) (vmF : Nat → Int32) (vmX : Nat → Int32) (vmH : Nat → Int32) (vmRow : Nat → Int32) (x3 : Int32) (H : Heap) (locs : List Loc) (cl sl : Nat) (ls : Array Slot) (hw : w_L N L xs n vxL vxY vsB vrN vrA vrE vrC vrF vtN vtK vhN vhW vhA vsQ vsU vmN vmR vmBN vmHN vmL vmLo vmHi vmC vmZ vmB vmT vmM vmK vmF vmX vmH vmRow x3) (hcs : cl + n ≤ 1000 ∧ sl + 300 * n ≤ 300000) (hP : va_P G vwCl (wdL cI cJ cZ aX aY aS aR aE aC aF aT aK aH aW aA aQ aU aM aM1 aM2 aM3 aM4 aM6 aM8 aM9 aM10 aM11 aM12 aM13 aM15 vxL vxY vsB vrN vrA vrE vrC vrF vtN vtK vhN vhW vhA vsQ vsU vmN vmR vmBN vmHN vmL vmLo vmHi vmC vmZ vmB vmT vmM vmK vmF vmX vmH vmRow) H) (hD : va_D (fun q : Nat => s.heap.size ≤ q) (wdL cI cJ cZ aX aY aS aR aE aC aF aT aK aH aW aA aQ aU aM aM1 aM2 aM3 aM4 aM6 aM8 aM9 aM10 aM11 aM12 aM13 aM15 vxL vxY vsB vrN vrA vrE vrC vrF vtN vtK vhN vhW vhA vsQ vsU vmN vmR vmBN vmHN vmL vmLo vmHi vmC vmZ vmB vmT vmM vmK vmF vmX vmH vmRow)) (hS : va_S (fun q : Nat => s.heap.size ≤ q) s.heap H locs) (hl : lv_has ls 4 [(0, .ref b), (1, .ref aX), (2, .ref aM), (3, .int x3)]), W p l e room_1 s m #[Value.ref b] below meth c H locs cl sl (lw_Z below #[Value.ref b] s) (F0 m 18 ls []) := by
  obtain ⟨hx, hb, hr, hml, hown, hts, hX, hbl, hlocks, hgv⟩ := id C0
  have hA : ∀ q : Nat, s.heap.size ≤ q → (fun q : Nat => s.heap.size ≤ q) q := fun _ h => h
  have hbA : ¬ (fun q : Nat => s.heap.size ≤ q) b := Nat.not_le.mpr hbl
  have hts2 : ∀ w ∈ wsL_law, w.before #[Value.ref b] s = true := fun w h => hts w (wsL_law_in w h)
  intro n
  induction n with
  | zero => intro vxL vxY vsB vrN vrA vrE vrC vrF vtN vtK vhN vhW vhA vsQ vsU vmN vmR vmBN vmHN vmL vmLo vmHi vmC vmZ vmB vmT vmM vmK vmF vmX vmH vmRow x3 H locs cl sl ls hw; exact hw.elim
  | succ n ih =>
    intro vxL vxY vsB vrN vrA vrE vrC vrF vtN vtK vhN vhW vhA vsQ vsU vmN vmR vmBN vmHN vmL vmLo vmHi vmC vmZ vmB vmT vmM vmK vmF vmX vmH vmRow x3 H locs cl sl ls hw hcs hP hD hS hl
    replace hw : w_L_B N L xs (w_L N L xs n) vxL vxY vsB vrN vrA vrE vrC vrF vtN vtK vhN vhW vhA vsQ vsU vmN vmR vmBN vmHN vmL vmLo vmHi vmC vmZ vmB vmT vmM vmK vmF vmX vmH vmRow x3 := hw
    unfold w_L_B at hw
    refine lv_iload_n hx hb dL_law_18 rfl (lv_at hl 3 rfl) ?_
    refine lv_aload_n hx hb dL_law_19 rfl (lv_at hl 0 rfl) ?_
    refine va_slen hx hb hX hbl hbA hS dL_law_20 ?_
    refine lv_iconst (v := (5 : Int32)) hx hb dL_law_21 (by decide) ?_
    refine lv_isub hx hb dL_law_22 ?_
    refine lv_icmp_gt (tgt := 450) hx hb dL_law_23 (by decide) (fun c1 => ?_) (fun c1 => ?_)
    · refine lv_iconst (v := (1 : Int32)) hx hb dL_law_450 (by decide) ?_
      refine va_forget (fun q hq => hS.2.2 q hq) ?_
      refine W.widen (k := 600000) (n := 7302250) (by omega) (by omega) ?_
      exact lw_ret hx hb hr hlocks dL_law_451
    · replace hw := hw.2 c1
      refine lv_aload_n hx hb dL_law_26 rfl (lv_at hl 0 rfl) ?_
      refine lv_iload_n hx hb dL_law_27 rfl (lv_at hl 3 rfl) ?_
      refine va_sld hx hb hX hbl hbA hS hw.1 dL_law_28 ?_
      refine lv_bipush (v := (15 : Int32)) hx hb dL_law_29 (by decide) ?_
      refine lv_iand hx hb dL_law_31 ?_
      refine lv_topi (fun v ev => ?_)
      obtain ⟨hw1, hw2⟩ := hw.2 v ev
      clear ev hw
      by_cases t0 : v = 0
      · have hw := hw1.1 t0
        subst t0
        refine lv_tableIn (tgt := 84) hx hb dL_law_32 (by decide) (by decide) rfl (by decide) ?_
        exact lw_c84 l C0 G cI cJ cZ hK hN aX aY aS aR aE aC aF aT aK aH aW aA aQ aU aM aM1 aM2 aM3 aM4 aM6 aM8 aM9 aM10 aM11 aM12 aM13 aM15 N n _ ih vxL vxY vsB vrN vrA vrE vrC vrF vtN vtK vhN vhW vhA vsQ vsU vmN vmR vmBN vmHN vmL vmLo vmHi vmC vmZ vmB vmT vmM vmK vmF vmX vmH vmRow x3 H locs cl sl ls hw ⟨by omega, by omega⟩ hP hD hS hl
      by_cases t1 : v = 1
      · have hw := hw1.2.1 t1
        subst t1
        refine lv_tableIn (tgt := 107) hx hb dL_law_32 (by decide) (by decide) rfl (by decide) ?_
        exact lw_c107 l C0 G cI cJ cZ hK hN aX aY aS aR aE aC aF aT aK aH aW aA aQ aU aM aM1 aM2 aM3 aM4 aM6 aM8 aM9 aM10 aM11 aM12 aM13 aM15 N n _ ih vxL vxY vsB vrN vrA vrE vrC vrF vtN vtK vhN vhW vhA vsQ vsU vmN vmR vmBN vmHN vmL vmLo vmHi vmC vmZ vmB vmT vmM vmK vmF vmX vmH vmRow x3 H locs cl sl ls hw ⟨by omega, by omega⟩ hP hD hS hl
      by_cases t2 : v = 2
      · have hw := hw1.2.2.1 t2
        subst t2
        refine lv_tableIn (tgt := 150) hx hb dL_law_32 (by decide) (by decide) rfl (by decide) ?_
        exact lw_c150 l C0 G cI cJ cZ hK hN aX aY aS aR aE aC aF aT aK aH aW aA aQ aU aM aM1 aM2 aM3 aM4 aM6 aM8 aM9 aM10 aM11 aM12 aM13 aM15 N n _ ih vxL vxY vsB vrN vrA vrE vrC vrF vtN vtK vhN vhW vhA vsQ vsU vmN vmR vmBN vmHN vmL vmLo vmHi vmC vmZ vmB vmT vmM vmK vmF vmX vmH vmRow x3 H locs cl sl ls hw ⟨by omega, by omega⟩ hP hD hS hl
      by_cases t3 : v = 3
      · have hw := hw1.2.2.2.1 t3
        subst t3
        refine lv_tableIn (tgt := 209) hx hb dL_law_32 (by decide) (by decide) rfl (by decide) ?_
        exact lw_c209 l C0 G cI cJ cZ hK hN aX aY aS aR aE aC aF aT aK aH aW aA aQ aU aM aM1 aM2 aM3 aM4 aM6 aM8 aM9 aM10 aM11 aM12 aM13 aM15 N n _ ih vxL vxY vsB vrN vrA vrE vrC vrF vtN vtK vhN vhW vhA vsQ vsU vmN vmR vmBN vmHN vmL vmLo vmHi vmC vmZ vmB vmT vmM vmK vmF vmX vmH vmRow x3 H locs cl sl ls hw ⟨by omega, by omega⟩ hP hD hS hl
      by_cases t4 : v = 4
      · have hw := hw1.2.2.2.2.1 t4
        subst t4
        refine lv_tableIn (tgt := 242) hx hb dL_law_32 (by decide) (by decide) rfl (by decide) ?_
        exact lw_c242 l C0 G cI cJ cZ hK hN aX aY aS aR aE aC aF aT aK aH aW aA aQ aU aM aM1 aM2 aM3 aM4 aM6 aM8 aM9 aM10 aM11 aM12 aM13 aM15 N n _ ih vxL vxY vsB vrN vrA vrE vrC vrF vtN vtK vhN vhW vhA vsQ vsU vmN vmR vmBN vmHN vmL vmLo vmHi vmC vmZ vmB vmT vmM vmK vmF vmX vmH vmRow x3 H locs cl sl ls hw ⟨by omega, by omega⟩ hP hD hS hl
      by_cases t5 : v = 5
      · have hw := hw1.2.2.2.2.2.1 t5
        subst t5
        refine lv_tableIn (tgt := 311) hx hb dL_law_32 (by decide) (by decide) rfl (by decide) ?_
        exact lw_c311 l C0 G cI cJ cZ hK hN aX aY aS aR aE aC aF aT aK aH aW aA aQ aU aM aM1 aM2 aM3 aM4 aM6 aM8 aM9 aM10 aM11 aM12 aM13 aM15 N n _ ih vxL vxY vsB vrN vrA vrE vrC vrF vtN vtK vhN vhW vhA vsQ vsU vmN vmR vmBN vmHN vmL vmLo vmHi vmC vmZ vmB vmT vmM vmK vmF vmX vmH vmRow x3 H locs cl sl ls hw ⟨by omega, by omega⟩ hP hD hS hl
      by_cases t6 : v = 6
      · have hw := hw1.2.2.2.2.2.2.1 t6
        subst t6
        refine lv_tableIn (tgt := 345) hx hb dL_law_32 (by decide) (by decide) rfl (by decide) ?_
        exact lw_c345 l C0 G cI cJ cZ hK hN aX aY aS aR aE aC aF aT aK aH aW aA aQ aU aM aM1 aM2 aM3 aM4 aM6 aM8 aM9 aM10 aM11 aM12 aM13 aM15 N n _ ih vxL vxY vsB vrN vrA vrE vrC vrF vtN vtK vhN vhW vhA vsQ vsU vmN vmR vmBN vmHN vmL vmLo vmHi vmC vmZ vmB vmT vmM vmK vmF vmX vmH vmRow x3 H locs cl sl ls hw ⟨by omega, by omega⟩ hP hD hS hl
      by_cases t7 : v = 7
      · have hw := hw1.2.2.2.2.2.2.2.1 t7
        subst t7
        refine lv_tableIn (tgt := 358) hx hb dL_law_32 (by decide) (by decide) rfl (by decide) ?_
        exact lw_c358 l C0 G cI cJ cZ hK hN aX aY aS aR aE aC aF aT aK aH aW aA aQ aU aM aM1 aM2 aM3 aM4 aM6 aM8 aM9 aM10 aM11 aM12 aM13 aM15 N n _ ih vxL vxY vsB vrN vrA vrE vrC vrF vtN vtK vhN vhW vhA vsQ vsU vmN vmR vmBN vmHN vmL vmLo vmHi vmC vmZ vmB vmT vmM vmK vmF vmX vmH vmRow x3 H locs cl sl ls hw ⟨by omega, by omega⟩ hP hD hS hl
      by_cases t8 : v = 8
      · have hw := hw1.2.2.2.2.2.2.2.2 t8
        subst t8
        refine lv_tableIn (tgt := 381) hx hb dL_law_32 (by decide) (by decide) rfl (by decide) ?_
        exact lw_c381 l C0 G cI cJ cZ hK hN aX aY aS aR aE aC aF aT aK aH aW aA aQ aU aM aM1 aM2 aM3 aM4 aM6 aM8 aM9 aM10 aM11 aM12 aM13 aM15 N n _ ih vxL vxY vsB vrN vrA vrE vrC vrF vtN vtK vhN vhW vhA vsQ vsU vmN vmR vmBN vmHN vmL vmLo vmHi vmC vmZ vmB vmT vmM vmK vmF vmX vmH vmRow x3 H locs cl sl ls hw ⟨by omega, by omega⟩ hP hD hS hl
      refine lv_tableOut (tgt := 444) hx hb dL_law_32 ?_ (by decide) ?_
      · have q0 := lv_neT t0 (a := 0) rfl
        have q1 := lv_neT t1 (a := 1) rfl
        have q2 := lv_neT t2 (a := 2) rfl
        have q3 := lv_neT t3 (a := 3) rfl
        have q4 := lv_neT t4 (a := 4) rfl
        have q5 := lv_neT t5 (a := 5) rfl
        have q6 := lv_neT t6 (a := 6) rfl
        have q7 := lv_neT t7 (a := 7) rfl
        have q8 := lv_neT t8 (a := 8) rfl
        omega
      · obtain ⟨y, ey⟩ : ∃ y : Int32, y = x3 + (5 : Int32) := ⟨_, rfl⟩
        have hw := hw2 t0 t1 t2 t3 t4 t5 t6 t7 t8 y ey
        refine lv_iinc (v := y) (lv' := [(3, .int y), (0, .ref b), (1, .ref aX), (2, .ref aM)]) hx hb dL_law_444 hl (k := 3) rfl (by rw [ey]; rfl) (by decide) rfl (fun ls hl => ?_)
        refine lv_goto (tgt := 18) hx hb dL_law_447 (by decide) ?_
        exact ih vxL vxY vsB vrN vrA vrE vrC vrF vtN vtK vhN vhW vhA vsQ vsU vmN vmR vmBN vmHN vmL vmLo vmHi vmC vmZ vmB vmT vmM vmK vmF vmX vmH vmRow y _ _ cl sl _ hw ⟨by omega, by omega⟩ hP hD hS (lv_sub hl [1, 2, 3, 0] rfl)
