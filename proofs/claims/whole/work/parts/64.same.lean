/-! the two searches over the same arcs -/
theorem arcM {n k : Nat} {Lo Hi cC cZ : Nat → Nat} {Cs : Nat → Nat → Int32} (h : MT n k Lo Hi cC cZ Cs) (hC : CS n Cs) {o t : Nat} (hot : ¬ Cs o t ≤ 0) : ∃ w, w < 2 * k ∧ cZ (w / 2) = 0 ∧ stM Lo Hi w = o ∧ stM Lo Hi (xr w) = t := by
  have h0 : Cs o t ≠ 0 := fun z => hot (by rw [z]; exact Int32.le_refl _)
  obtain ⟨ho, ht, -⟩ := hC.2.2 o t h0
  have hz : ∀ r, r < k → ¬ Cs (Lo r) (Hi r) ≤ 0 → cZ r = 0 := fun r hr z => by
    obtain ⟨l1, l2, l3, l4, l5, l6⟩ := h.2.2.1 r hr
    by_cases q : cZ r = 0
    · exact q
    · exfalso
      rw [if_neg q] at l6
      apply z
      rw [l6, Int32.le_iff_toInt_le, sb_negT (by omega)]
      have : (0 : Int32).toInt = 0 := by decide
      omega
  rcases Nat.lt_trichotomy o t with q | q | q
  · obtain ⟨r, hr, e1, e2⟩ := h.2.2.2 o t q ht h0
    have hzr := hz r hr (by rw [e1, e2]; exact hot)
    refine ⟨2 * r, by omega, by rw [show 2 * r / 2 = r by omega]; exact hzr, ?_, ?_⟩
    · unfold stM; rw [if_pos (by omega), show 2 * r / 2 = r by omega]; exact e1
    · unfold stM xr; rw [if_pos (show 2 * r % 2 = 0 by omega), if_neg (by omega), show (2 * r + 1) / 2 = r by omega]; exact e2
  · rw [q] at h0; exact absurd (hC.2.1 t) h0
  · obtain ⟨r, hr, e1, e2⟩ := h.2.2.2 t o q ho (by rw [hC.1]; exact h0)
    have hzr := hz r hr (by rw [e1, e2, hC.1]; exact hot)
    refine ⟨2 * r + 1, by omega, by rw [show (2 * r + 1) / 2 = r by omega]; exact hzr, ?_, ?_⟩
    · unfold stM; rw [if_neg (by omega), show (2 * r + 1) / 2 = r by omega]; exact e2
    · unfold stM xr; rw [if_neg (show ¬ (2 * r + 1) % 2 = 0 by omega), if_pos (by omega), show (2 * r + 1 - 1) / 2 = r by omega]; exact e1
theorem MT.cs' {n k : Nat} {Lo Hi cC cZ : Nat → Nat} {Cs : Nat → Nat → Int32} (h : MT n k Lo Hi cC cZ Cs) (hC : CS n Cs) {w : Nat} (hw : w < 2 * k) (ho : cZ (w / 2) = 0) : ¬ Cs (stM Lo Hi w) (stM Lo Hi (xr w)) ≤ 0 ∧ wC (Cs (stM Lo Hi w) (stM Lo Hi (xr w))) = cC (w / 2) * 4096 + 1 := by
  obtain ⟨e1, e2⟩ := h.cs hC hw ho
  have l := h.2.2.1 (w / 2) (by omega)
  rw [hC.1]
  refine ⟨?_, e2⟩
  rw [e1]
  exact nI_nle (by omega) (by omega)
theorem arcX {n m : Nat} {E F : Nat → Nat} {vC : Nat → Int32} {Cs : Nat → Nat → Int32} (h : RT n m E F vC Cs) (hC : CS n Cs) {o t : Nat} (hot : ¬ Cs o t ≤ 0) : ∃ e, (e < m ∧ ¬ vC e ≤ 0) ∧ E e / 300 = o ∧ E e % 300 = t := by
  have h0 : Cs o t ≠ 0 := fun z => hot (by rw [z]; exact Int32.le_refl _)
  obtain ⟨ho, ht, -⟩ := hC.2.2 o t h0
  have n2 := h.1.2.1
  obtain ⟨e, he, ee⟩ := h.2.2.2.2 o t ho ht h0
  have d1 : E e / 300 = o := by omega
  have d2 : E e % 300 = t := by omega
  refine ⟨e, ⟨he, ?_⟩, d1, d2⟩
  rw [(h.2.2.2.1 e he).2.2.1, d1, d2]
  exact hot
/-- searched from the end -/
theorem same_R {n k s : Nat} {E F W D : Nat → Nat} {vC : Nat → Int32} {Cs : Nat → Nat → Int32} {Lo Hi cC cZ : Nat → Nat} {B : Nat → Nat → Nat → Prop} {dn1 dn2 : Nat → Prop} {M1 M2 : Nat} (hR : RT n (2 * k) E F vC Cs) (hC : CS n Cs) (hM : MT n k Lo Hi cC cZ Cs) (h1 : DInv s (fun j => E j / 300) (fun j => E j % 300) (fun j => j < 2 * k ∧ ¬ vC j ≤ 0) (fun j => wC (vC j)) B (fun j => if j < 2 * k then W j else 0) dn1 M1) (h2 : DInv s (fun e => stM Lo Hi (xr e)) (fun e => stM Lo Hi (xr (xr e))) (fun w => w < 2 * k ∧ cZ (w / 2) = 0) (fun w => cC (w / 2) * 4096 + 1) B D dn2 M2) :
    ∀ x y v, v ≠ 0 → v ≤ M1 → v ≤ M2 → (VX (2 * k) E W x y v ↔ VM k Lo Hi D x y v) := by
  have n2 := hR.1.2.1
  have a12 : ∀ e, (e < 2 * k ∧ ¬ vC e ≤ 0) → ∃ f, (f < 2 * k ∧ cZ (f / 2) = 0) ∧ stM Lo Hi (xr f) = E e / 300 ∧ stM Lo Hi (xr (xr f)) = E e % 300 := fun e he => by
    have r3 := (hR.2.2.2.1 e he.1).2.2.1
    have ho := he.2
    rw [r3, hC.1] at ho
    obtain ⟨w, w1, w2, w3, w4⟩ := arcM hM hC ho
    exact ⟨w, ⟨w1, w2⟩, w4, by rw [xr_xr]; exact w3⟩
  have a21 : ∀ f, (f < 2 * k ∧ cZ (f / 2) = 0) → ∃ e, (e < 2 * k ∧ ¬ vC e ≤ 0) ∧ E e / 300 = stM Lo Hi (xr f) ∧ E e % 300 = stM Lo Hi (xr (xr f)) := fun f hf => by
    have := (hM.cs' hC hf.1 hf.2).1
    rw [hC.1] at this
    obtain ⟨e, e1, e2, e3⟩ := arcX hR hC this
    exact ⟨e, e1, e2, by rw [xr_xr]; exact e3⟩
  have hw : ∀ e f, (e < 2 * k ∧ ¬ vC e ≤ 0) → (f < 2 * k ∧ cZ (f / 2) = 0) → E e / 300 = stM Lo Hi (xr f) → E e % 300 = stM Lo Hi (xr (xr f)) → wC (vC e) = cC (f / 2) * 4096 + 1 := fun e f he hf q1 q2 => by
    rw [(hR.2.2.2.1 e he.1).2.2.1, q1, q2, xr_xr]
    exact (hM.cs hC hf.1 hf.2).2
  have key := h1.same h2 a12 a21 hw (fun e _ => by show 0 < wC (vC e); unfold wC; omega)
  intro x y v hv hv1 hv2
  constructor
  · rintro ⟨e, he, ee, ew, hx⟩
    have he1 : (if e < 2 * k then W e else 0) = v := by rw [if_pos he]; exact ew
    have hok := (h1.1 e (by show (if e < 2 * k then W e else 0) ≠ 0; rw [he1]; exact hv)).1
    obtain ⟨f, f1, f2, f3⟩ := a12 e hok
    have := (key v hv hv1 hv2 e f hok f1 f2.symm f3.symm).mp he1
    rw [xr_xr] at f3
    exact ⟨f, f1.1, by omega, by omega, this⟩
  · rintro ⟨w, w1, w2, w3, w4⟩
    have hok := (h2.1 w (by rw [w4]; exact hv)).1
    obtain ⟨e, e1, e2, e3⟩ := a21 w hok
    have := (key v hv hv1 hv2 e w e1 hok e2 e3).mpr w4
    replace this : (if e < 2 * k then W e else 0) = v := this
    rw [if_pos e1.1] at this
    rw [xr_xr] at e3
    have := hM.st w1
    exact ⟨e, e1.1, by omega, by assumption, by omega⟩
/-- searched from the beginning: the same arcs are done -/
theorem same_W {n k s L : Nat} {E F W D : Nat → Nat} {vC : Nat → Int32} {Cs : Nat → Nat → Int32} {Lo Hi cC cZ : Nat → Nat} {B : Nat → Nat → Nat → Prop} {dn1 dn2 : Nat → Prop} (hR : RT n (2 * k) E F vC Cs) (hC : CS n Cs) (hM : MT n k Lo Hi cC cZ Cs) (h1 : WI (2 * k) s E vC B W dn1 L) (h2 : WM k s Lo Hi cC cZ B D dn2 L) (v : Nat) : (∃ f, dn1 f ∧ E f % 300 = v) ↔ (∃ f, dn2 f ∧ stM Lo Hi (xr f) = v) := by
  have a12 : ∀ e, (e < 2 * k ∧ ¬ vC e ≤ 0) → ∃ f, (f < 2 * k ∧ cZ (f / 2) = 0) ∧ stM Lo Hi f = E e / 300 ∧ stM Lo Hi (xr f) = E e % 300 := fun e he => by
    have r3 := (hR.2.2.2.1 e he.1).2.2.1
    have ho := he.2
    rw [r3] at ho
    obtain ⟨w, w1, w2, w3, w4⟩ := arcM hM hC ho
    exact ⟨w, ⟨w1, w2⟩, w3, w4⟩
  have a21 : ∀ f, (f < 2 * k ∧ cZ (f / 2) = 0) → ∃ e, (e < 2 * k ∧ ¬ vC e ≤ 0) ∧ E e / 300 = stM Lo Hi f ∧ E e % 300 = stM Lo Hi (xr f) := fun f hf => arcX hR hC (hM.cs' hC hf.1 hf.2).1
  have hw : ∀ e f, (e < 2 * k ∧ ¬ vC e ≤ 0) → (f < 2 * k ∧ cZ (f / 2) = 0) → E e / 300 = stM Lo Hi f → E e % 300 = stM Lo Hi (xr f) → wC (vC e) = cC (f / 2) * 4096 + 1 := fun e f he hf q1 q2 => by
    rw [(hR.2.2.2.1 e he.1).2.2.1, q1, q2]
    exact (hM.cs' hC hf.1 hf.2).2
  have key := h1.1.same h2.1 a12 a21 hw (fun e _ => by show 0 < wC (vC e); unfold wC; omega)
  constructor
  · rintro ⟨f, f1, f2⟩
    obtain ⟨g1, g2⟩ := h1.2 f f1
    have gn := (h1.1.2.2.2.1 f f1).1
    replace gn : (if f < 2 * k then W f else 0) ≠ 0 := gn
    have hok := (h1.1.1 f gn).1
    obtain ⟨w, w1, w2, w3⟩ := a12 f hok
    rw [if_pos g1] at gn
    have := (key (W f) gn (by omega) (by omega) f w hok w1 w2.symm w3.symm).mp (if_pos g1)
    refine ⟨w, ?_, by rw [w3]; exact f2⟩
    by_cases c : dn2 w
    · exact c
    · have := h2.1.2.2.2.2 w (by omega) c
      omega
  · rintro ⟨w, w1, w2⟩
    have g2 := h2.2 w w1
    have gn := (h2.1.2.2.2.1 w w1).1
    have hok := (h2.1.1 w gn).1
    obtain ⟨e, e1, e2, e3⟩ := a21 w hok
    have := (key (D w) gn (by omega) (by omega) e w e1 hok e2 e3).mpr rfl
    refine ⟨e, ?_, by rw [e3]; exact w2⟩
    by_cases c : dn1 e
    · exact c
    · have h5 := h1.1.2.2.2.2 e (by show (if e < 2 * k then W e else 0) ≠ 0; rw [this]; exact gn) c
      replace h5 : L ≤ (if e < 2 * k then W e else 0) := h5
      rw [this] at h5
      omega
/-- route(): both find the same cost and the same row -/
theorem route_same {n k a b v L1 L2 M2 : Nat} {r2 : Int64} {E F W D Y1 Y2 : Nat → Nat} {vC : Nat → Int32} {Cs : Nat → Nat → Int32} {Lo Hi cC cZ : Nat → Nat} {Bar : Nat → Nat → Nat → Prop} {dn2 : Nat → Prop} (hR : RT n (2 * k) E F vC Cs) (hC : CS n Cs) (hM : MT n k Lo Hi cC cZ Cs) (hFA : FA (2 * k) b a E vC (fun x y z => Bar z y x) W v) (h1 : (v ≠ 0 ∧ L1 ≤ 4001 ∧ ∃ rs, Way (VX (2 * k) E W) (fun x y => wC (Cs y x)) Bar L1 Y1 rs ∧ Y1 0 = a ∧ rs 0 = v) ∨ (v = 0 ∧ L1 = 0))
    (h2 : DInv b (fun e => stM Lo Hi (xr e)) (fun e => stM Lo Hi (xr (xr e))) (fun w => w < 2 * k ∧ cZ (w / 2) = 0) (fun w => cC (w / 2) * 4096 + 1) (fun x y z => Bar z y x) D dn2 M2) (hall : ∀ e, D e ≠ 0 → dn2 e)
    (h3 : (∃ v rs, v ≠ 0 ∧ r2 = lN (v / 4096) ∧ L2 ≤ 4001 ∧ Way (VM k Lo Hi D) (fun x y => wC (Cs y x)) Bar L2 Y2 rs ∧ Y2 0 = a ∧ rs 0 = v ∧ (∃ w, w < 2 * k ∧ D w = v ∧ stM Lo Hi w = a) ∧ ∀ w, w < 2 * k → D w ≠ 0 → stM Lo Hi w = a → v ≤ D w) ∨ (r2 = -3 ∧ L2 = 0 ∧ ∀ w, w < 2 * k → D w ≠ 0 → stM Lo Hi w ≠ a)) :
    (if v = 0 then -3 else lN (v / 4096)) = r2 ∧ L1 = L2 ∧ L1 ≤ 4001 ∧ ∀ j, j < L1 → Y1 j = Y2 j := by
  have n2 := hR.1.2.1
  obtain ⟨dn1, M1, hD1, hor⟩ := hFA
  have up2 : ∀ M', M2 ≤ M' → DInv b (fun e => stM Lo Hi (xr e)) (fun e => stM Lo Hi (xr (xr e))) (fun w => w < 2 * k ∧ cZ (w / 2) = 0) (fun w => cC (w / 2) * 4096 + 1) (fun x y z => Bar z y x) D dn2 M' := fun M' hM' => h2.raise (fun e he => Nat.le_trans (h2.2.2.2.1 e he).2 hM') (fun e he hd => absurd (hall e he) hd)
  rcases hor with ⟨v0, eM, -, ⟨e, he, ew, et⟩, hmin⟩ | ⟨v0, alld, nog⟩
  · have sm := same_R hR hC hM hD1 (up2 (max M2 M1) (Nat.le_max_left _ _))
    have vle : v ≤ M1 := by omega
    have sm' : ∀ x y u, u ≠ 0 → u ≤ v → (VX (2 * k) E W x y u ↔ VM k Lo Hi D x y u) := fun x y u hu hl => sm x y u hu (by omega) (by have := Nat.le_max_right M2 M1; omega)
    obtain ⟨w, w1, w2, w3, w4⟩ := (sm' a (E e / 300) v v0 (Nat.le_refl _)).mp ⟨e, he, by omega, ew, by omega⟩
    rcases h3 with ⟨v', rs2, q0, q1, q2, q3, q4, q5, ⟨w', p1, p2, p3⟩, q7⟩ | ⟨-, -, q⟩
    · have l1 : v' ≤ v := by have := q7 w w1 (by rw [w4]; exact v0) w2; omega
      have l2 : v ≤ v' := by
        obtain ⟨e', e1, e2, e3, e4⟩ := (sm' a (stM Lo Hi (xr w')) v' q0 l1).mpr ⟨w', p1, p3, rfl, p2⟩
        have := hmin e' e1 (by rw [e3]; exact q0) (by omega)
        omega
      have ev : v = v' := by omega
      subst ev
      rcases h1 with ⟨-, hL1, rs1, z1, z2, z3⟩ | ⟨z, -⟩
      · obtain ⟨eL, eY⟩ := Way.same z1 q3 (fun x y u hu hl => sm' x y u hu (by omega)) (z2.trans q4.symm) (z3.trans q5.symm)
        rw [if_neg v0]
        exact ⟨q1.symm, eL, hL1, eY⟩
      · exact absurd z v0
    · exact absurd w2 (q w w1 (by rw [w4]; exact v0))
  · subst v0
    rcases h1 with ⟨z, -⟩ | ⟨-, hL1⟩
    · exact absurd rfl z
    · rcases h3 with ⟨v', rs2, q0, q1, q2, q3, q4, q5, ⟨w', p1, p2, p3⟩, q7⟩ | ⟨z1, z2, -⟩
      · exfalso
        have up1 := hD1.raise (M' := max M1 M2) (fun e he => Nat.le_trans (hD1.2.2.2.1 e he).2 (Nat.le_max_left _ _)) (fun e he hd => by
          have hem := (hD1.1 e he).1.1
          replace he : (if e < 2 * k then W e else 0) ≠ 0 := he
          rw [if_pos hem] at he
          exact absurd (alld e hem he) hd)
        have hvm : v' ≤ M2 := by
          have := (h2.2.2.2.1 w' (hall w' (by rw [p2]; exact q0))).2
          omega
        obtain ⟨e', e1, e2, e3, e4⟩ := (same_R hR hC hM up1 h2 a (stM Lo Hi (xr w')) v' q0 (by have := Nat.le_max_right M1 M2; omega) hvm).mpr ⟨w', p1, p3, rfl, p2⟩
        exact nog e' e1 (by rw [e3]; exact q0) (by omega)
      · rw [if_pos rfl]
        exact ⟨z1.symm, by omega, by omega, fun j hj => by omega⟩
