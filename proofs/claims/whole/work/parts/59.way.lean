theorem cn_sub {f g : Nat → Bool} (h : ∀ i, f i = true → g i = true) : ∀ n, cn f n ≤ cn g n
  | 0 => Nat.le_refl _
  | n + 1 => by
    have := cn_sub h n
    unfold cn
    cases hf : f n with
    | false =>
      simp
      split <;> omega
    | true =>
      rw [h n hf]
      simp
      omega
theorem cn_sublt {f g : Nat → Bool} {v : Nat} (h : ∀ i, f i = true → g i = true) (hf : f v = false) (hg : g v = true) : ∀ n, v < n → cn f n < cn g n
  | 0, z => by omega
  | n + 1, z => by
    unfold cn
    by_cases e : v = n
    · subst e
      have := cn_sub h v
      rw [hf, hg]
      simp
      omega
    · have := cn_sublt h hf hg n (by omega)
      cases hfn : f n with
      | false =>
        simp
        split <;> omega
      | true =>
        rw [h n hfn]
        simp
        omega
/-- how many arcs have a value up to v -/
def mu (D : Nat → Nat) (m v : Nat) : Nat := cn (fun j => decide (D j ≠ 0 ∧ D j ≤ v)) m
theorem mu_le (D : Nat → Nat) (m v : Nat) : mu D m v ≤ m := cn_le _ _
theorem mu_lt {D : Nat → Nat} {m v w e : Nat} (hw : w < v) (he : e < m) (hv : D e = v) (h0 : v ≠ 0) : mu D m w < mu D m v :=
  cn_sublt (v := e) (fun i hi => by
    have := of_decide_eq_true hi
    exact decide_eq_true ⟨this.1, by omega⟩) (decide_eq_false (fun z => by have := z.2; omega)) (decide_eq_true ⟨by omega, by omega⟩) m he
theorem mu_pos {D : Nat → Nat} {m v e : Nat} (he : e < m) (hv : D e = v) (h0 : v ≠ 0) : 0 < mu D m v := by
  have := mu_lt (w := 0) (by omega) he hv h0
  omega
/-- the row of a best way: V x y v: a way that begins with x, y can come to its end by v -/
def Way (V : Nat → Nat → Nat → Prop) (wt : Nat → Nat → Nat) (Bar : Nat → Nat → Nat → Prop) (L : Nat) (Y rs : Nat → Nat) : Prop :=
  1 ≤ L ∧ (∀ j, j + 1 < L → rs j ≠ 0 ∧ V (Y j) (Y (j + 1)) (rs j) ∧ (0 < j → ¬ Bar (Y (j - 1)) (Y j) (Y (j + 1))) ∧ (∀ y, V (Y j) y (rs j) → (0 < j → ¬ Bar (Y (j - 1)) (Y j) y) → Y (j + 1) ≤ y) ∧ rs j = wt (Y j) (Y (j + 1)) + rs (j + 1)) ∧ rs (L - 1) = 0
theorem Way.down {V : Nat → Nat → Nat → Prop} {wt : Nat → Nat → Nat} {Bar : Nat → Nat → Nat → Prop} {L : Nat} {Y rs : Nat → Nat} (h : Way V wt Bar L Y rs) : ∀ j, j < L → rs j ≤ rs 0 := by
  intro j
  induction j with
  | zero => intro _; exact Nat.le_refl _
  | succ j ih =>
    intro hj
    have := (h.2.1 j hj).2.2.2.2
    have := ih (by omega)
    omega
theorem Way.same {V1 V2 : Nat → Nat → Nat → Prop} {wt : Nat → Nat → Nat} {Bar : Nat → Nat → Nat → Prop} {L1 L2 : Nat} {Y1 Y2 rs1 rs2 : Nat → Nat} (h1 : Way V1 wt Bar L1 Y1 rs1) (h2 : Way V2 wt Bar L2 Y2 rs2) (hV : ∀ x y v, v ≠ 0 → v ≤ rs1 0 → (V1 x y v ↔ V2 x y v)) (e0 : Y1 0 = Y2 0) (r0 : rs1 0 = rs2 0) : L1 = L2 ∧ ∀ j, j < L1 → Y1 j = Y2 j := by
  have key : ∀ j, j < L1 → j < L2 → ∀ i, i ≤ j → Y1 i = Y2 i ∧ rs1 i = rs2 i := by
    intro j
    induction j with
    | zero =>
      intro _ _ i hi
      rw [show i = 0 by omega]
      exact ⟨e0, r0⟩
    | succ j ih =>
      intro a b i hi
      by_cases c : i ≤ j
      · exact ih (by omega) (by omega) i c
      · have ei : i = j + 1 := by omega
        subst ei
        obtain ⟨p1, p2, p3, p4, p5⟩ := h1.2.1 j a
        obtain ⟨q1, q2, q3, q4, q5⟩ := h2.2.1 j b
        obtain ⟨ej, rj⟩ := ih (by omega) (by omega) j (Nat.le_refl _)
        have hb : 0 < j → Y1 (j - 1) = Y2 (j - 1) := fun _ => (ih (by omega) (by omega) (j - 1) (by omega)).1
        have hd := h1.down j (by omega)
        have l1 : Y1 (j + 1) ≤ Y2 (j + 1) := p4 _ ((hV _ _ _ p1 hd).mpr (by rw [ej, rj]; exact q2)) (fun z => by rw [hb z, ej]; exact q3 z)
        have l2 : Y2 (j + 1) ≤ Y1 (j + 1) := q4 _ (by rw [← ej, ← rj]; exact (hV _ _ _ p1 hd).mp p2) (fun z => by rw [← hb z, ← ej]; exact p3 z)
        have e1 : Y1 (j + 1) = Y2 (j + 1) := by omega
        exact ⟨e1, by rw [ej, e1] at p5; omega⟩
  have hL : L1 = L2 := by
    rcases Nat.lt_trichotomy L1 L2 with q | q | q
    · exfalso
      have a1 := h1.1
      obtain ⟨-, r⟩ := key (L1 - 1) (by omega) (by omega) (L1 - 1) (Nat.le_refl _)
      have := (h2.2.1 (L1 - 1) (by omega)).1
      rw [← r, h1.2.2] at this
      exact this rfl
    · exact q
    · exfalso
      have a1 := h2.1
      obtain ⟨-, r⟩ := key (L2 - 1) (by omega) (by omega) (L2 - 1) (Nat.le_refl _)
      have := (h1.2.1 (L2 - 1) (by omega)).1
      rw [r, h2.2.2] at this
      exact this rfl
  exact ⟨hL, fun j hj => (key j hj (by omega) j (Nat.le_refl _)).1⟩
/-! the class's way -/
theorem labt_l {N n m at_ rest : Nat} {E F W : Nat → Nat} {vC : Nat → Int32} {Cs : Nat → Nat → Int32} {P : Nat → Prop} {vsB vtN x2 : Int32} {vtK : Nat → Int32} {post : Int32 → Prop} (h : RT n m E F vC Cs) (hC : CS n Cs) (hN : 4000 < N) (ha : at_ < n) (hW : ∀ j, W j < 2 ^ 63) (hr : rest < 2 ^ 63)
    (hmt : ∀ t', t' < n → ∀ ps : Int32 → Prop, (P t' → ps 1) → (¬ P t' → ps 0) → w_X2_mayTurn N vsB vtN vtK (nI t') (nI at_) x2 ps)
    (h1 : ∀ e, e < m → E e % 300 = at_ → W e = rest → P (E e / 300) → (∀ e', e' < m → E e' % 300 = at_ → W e' = rest → P (E e' / 300) → E e / 300 ≤ E e' / 300) → post (nI e)) (h0 : (∀ e, e < m → E e % 300 = at_ → W e = rest → ¬ P (E e / 300)) → post (-1)) :
    ∀ (t p : Nat), F at_ ≤ p → p ≤ F (at_ + 1) → F (at_ + 1) - p < t → (∀ p', F at_ ≤ p' → p' < p → ∀ e, e < m → E e = 300 * (E p' % 300) + at_ → W e = rest → ¬ P (E p' % 300)) → w_X2_leastArcBackTo_b11 N vsB (nI n) (aI E) (aI F) vtN vtK (aL W) (nI at_) x2 (lN rest) post t (nI p) := by
  obtain ⟨n1, n2, n3⟩ := h.1
  have f2 := (h.2.2.1 (at_ + 1) (by omega)).1
  -- where an arc to 'at_' has its mate
  have mate : ∀ e, e < m → E e % 300 = at_ → ∃ p, F at_ ≤ p ∧ p < F (at_ + 1) ∧ E p = 300 * at_ + E e / 300 := fun e he ht => by
    obtain ⟨r1, r2, r3, r4⟩ := h.2.2.2.1 e he
    rw [ht, hC.1] at r4
    obtain ⟨p, hp, ep⟩ := h.2.2.2.2 at_ (E e / 300) ha r1 r4
    obtain ⟨a, b⟩ := (h.seg (a := at_) (by omega) hp).mpr (by omega)
    exact ⟨p, a, b, ep⟩
  intro t
  induction t with
  | zero => intro p _ _ z; omega
  | succ t ih =>
    intro p k1 k2 k3 k4
    show w_X2_leastArcBackTo_b11_B N vsB (nI n) (aI E) (aI F) vtN vtK (aL W) (nI at_) x2 (lN rest) post _ (nI p)
    unfold w_X2_leastArcBackTo_b11_B
    rw [show nI at_ + (1 : Int32) = nI (at_ + 1) from nI_1 at_, nI_clamp (by omega)]
    refine ⟨vp_in_nI (by omega) (by omega), pk_le (F (at_ + 1)) p (fun z => h0 (fun e he ht hw hP => ?_)) (fun z => ?_) rfl rfl (by omega) (by omega)⟩
    · obtain ⟨p', a, b, ep⟩ := mate e he ht
      have e1 : E p' % 300 = E e / 300 := by have := (h.2.2.2.1 e he).1; omega
      exact k4 p' a (by omega) e he (by rw [e1]; omega) hw (by rw [e1]; exact hP)
    · have hpm : p < m := by omega
      obtain ⟨r1, r2, r3, r4⟩ := h.2.2.2.1 p hpm
      have ho := (h.seg (a := at_) (by omega) hpm).mp ⟨k1, z⟩
      rw [ho] at r4
      have hs : Cs (E p % 300) at_ ≠ 0 := by rw [hC.1]; exact r4
      have nx : (∀ e, e < m → E e = 300 * (E p % 300) + at_ → W e = rest → ¬ P (E p % 300)) → ∀ y : Int32, y = nI p + (1 : Int32) → w_X2_leastArcBackTo_b11 N vsB (nI n) (aI E) (aI F) vtN vtK (aL W) (nI at_) x2 (lN rest) post t y := by
        intro hno y hy
        have ey : y = nI (p + 1) := by rw [hy]; exact nI_1 p
        subst ey
        refine ih (p + 1) (by omega) (by omega) (by omega) (fun p' a b => ?_)
        by_cases c : p' = p
        · subst c; exact hno
        · exact k4 p' a (by omega)
      refine targetOf_s (by omega) (h.lt hpm) ?_
      refine find_s h hN (fun a b j ha' hb' ea eb hj ej => ?_) (fun hz => ?_)
      · have q1 := nI_inj (n := n) (by omega) r2 ha' ea
        have q2 := nI_inj (n := n) (by omega) ha hb' eb
        subst q1 q2
        refine ⟨fun y => absurd y (ne_m1 (by omega)), fun _ => ⟨vp_in_nI (by omega) (by omega), ?_⟩⟩
        rw [nI_clamp (by omega), lg_cmp_eq, show aL W j = lN (W j) from rfl, pk_lEQ (hW j) hr]
        refine ⟨fun hne => nx (fun e he ee hw => ?_), fun heq => ?_⟩
        · exfalso
          have := h.inj he hj (ee.trans ej.symm)
          rw [this] at hw
          exact hne hw
        · refine hmt (E p % 300) r2 _ (fun hP => ⟨fun y => absurd y (by decide), fun _ => ?_⟩) (fun hP => ⟨fun _ => nx (fun _ _ _ _ => hP), fun y => absurd rfl y⟩)
          have d1 : E j / 300 = E p % 300 := by omega
          refine h1 j hj (by omega) heq (by rw [d1]; exact hP) (fun e' he' ht' hw' hP' => ?_)
          obtain ⟨p', a, b, ep⟩ := mate e' he' ht'
          have e1 : E p' % 300 = E e' / 300 := by have := (h.2.2.2.1 e' he').1; omega
          by_cases c : p' < p
          · exact absurd (by rw [e1]; exact hP') (k4 p' a c e' he' (by rw [e1]; omega) hw')
          · rw [d1, ← e1]
            by_cases c2 : p' = p
            · rw [c2]; exact Nat.le_refl _
            · have := h.2.1 p p' (by omega) (by omega)
              omega
      · exfalso
        obtain ⟨j, hj, ej⟩ := h.2.2.2.2 (E p % 300) at_ r2 ha hs
        exact hz (E p % 300) at_ r2 ha rfl rfl j hj ej
theorem labt_s {N n m at_ rest : Nat} {E F W : Nat → Nat} {vC : Nat → Int32} {Cs : Nat → Nat → Int32} {P : Nat → Prop} {vsB vtN x2 : Int32} {vtK : Nat → Int32} {post : Int32 → Prop} (h : RT n m E F vC Cs) (hC : CS n Cs) (hN : 4000 < N) (ha : at_ < n) (hW : ∀ j, W j < 2 ^ 63) (hr : rest < 2 ^ 63)
    (hmt : ∀ t', t' < n → ∀ ps : Int32 → Prop, (P t' → ps 1) → (¬ P t' → ps 0) → w_X2_mayTurn N vsB vtN vtK (nI t') (nI at_) x2 ps)
    (h1 : ∀ e, e < m → E e % 300 = at_ → W e = rest → P (E e / 300) → (∀ e', e' < m → E e' % 300 = at_ → W e' = rest → P (E e' / 300) → E e / 300 ≤ E e' / 300) → post (nI e)) (h0 : (∀ e, e < m → E e % 300 = at_ → W e = rest → ¬ P (E e / 300)) → post (-1)) : w_X2_leastArcBackTo N vsB (nI n) (aI E) (aI F) vtN vtK (aL W) (nI at_) x2 (lN rest) post := by
  obtain ⟨n1, n2, n3⟩ := h.1
  have f2 := (h.2.2.1 (at_ + 1) (by omega)).1
  have f3 := h.Fle (a := at_) (by omega)
  unfold w_X2_leastArcBackTo
  rw [nI_clamp (by omega)]
  refine ⟨vp_in_nI (by omega) (by omega), fun x e => ?_⟩
  have q : x = nI (F at_) := e
  subst q
  exact labt_l h hC hN ha hW hr hmt h1 h0 N (F at_) (Nat.le_refl _) f3 (by omega) (fun p' a b => by omega)
/-- the values of the class's search, by nodes: the way goes from x over y -/
def VX (m : Nat) (E W : Nat → Nat) (x y v : Nat) : Prop := ∃ e, e < m ∧ E e = 300 * y + x ∧ W e = v ∧ x < 300
theorem layWay_l {N n m q s : Nat} {E F K W : Nat → Nat} {vC : Nat → Int32} {Cs : Nat → Nat → Int32} {Bar : Nat → Nat → Nat → Prop} {dn : Nat → Prop} {M : Nat} {post : Int32 → (Nat → Int32) → Prop} (h : RT n m E F vC Cs) (hC : CS n Cs) (hT : TT n q K Bar) (hN : 4000 < N) (hW : ∀ j, W j < 2 ^ 63) (hD : DInv s (fun j => E j / 300) (fun j => E j % 300) (fun j => j < m ∧ ¬ vC j ≤ 0) (fun j => wC (vC j)) (fun x y z => Bar z y x) (fun j => if j < m then W j else 0) dn M)
    (v0 a : Nat) (hp : ∀ L Y rs, Way (VX m E W) (fun x y => wC (Cs y x)) Bar L Y rs → L ≤ 4001 → Y 0 = a → rs 0 = v0 → post (nI L) (aI Y)) :
    ∀ (t k rest : Nat) (Y rs : Nat → Nat), 4000 < t + k → k + mu (fun j => if j < m then W j else 0) m rest ≤ 4000 → Y k < n → (0 < k → Y (k - 1) < n) → Y 0 = a → rs 0 = v0 → rs k = rest →
      (∀ j, j < k → rs j ≠ 0 ∧ VX m E W (Y j) (Y (j + 1)) (rs j) ∧ (0 < j → ¬ Bar (Y (j - 1)) (Y j) (Y (j + 1))) ∧ (∀ y, VX m E W (Y j) y (rs j) → (0 < j → ¬ Bar (Y (j - 1)) (Y j) y) → Y (j + 1) ≤ y) ∧ rs j = wC (Cs (Y (j + 1)) (Y j)) + rs (j + 1)) →
      (rest ≠ 0 → ∃ e, e < m ∧ E e % 300 = Y k ∧ W e = rest ∧ (0 < k → ¬ Bar (Y (k - 1)) (Y k) (E e / 300))) → rest < 2 ^ 63 →
      w_X4_layWay_b18 N 1 (nI n) (aI E) vC (aI F) (nI q) (aI K) (aL W) post t (nI (k + 1)) (aI Y) (if k = 0 then -1 else nI (Y (k - 1))) (nI (Y k)) (lN rest) (nI k) := by
  obtain ⟨n1, n2, n3⟩ := h.1
  intro t
  induction t with
  | zero => intro k rest Y rs z1 z2; omega
  | succ t ih =>
    intro k rest Y rs k1 k2 k3 k4 k5 k6 k7 k8 k9 k10
    show w_X4_layWay_b18_B N 1 (nI n) (aI E) vC (aI F) (nI q) (aI K) (aL W) post _ (nI (k + 1)) (aI Y) (if k = 0 then -1 else nI (Y (k - 1))) (nI (Y k)) (lN rest) (nI k)
    unfold w_X4_layWay_b18_B
    have fin : rest = 0 → post (nI (k + 1)) (aI Y) := fun hz => hp (k + 1) Y rs ⟨by omega, fun j hj => k8 j (by omega), by rw [show k + 1 - 1 = k by omega, k7]; exact hz⟩ (by omega) k5 k6
    have hmu : rest ≠ 0 → 0 < mu (fun j => if j < m then W j else 0) m rest := fun hz => by
      obtain ⟨e, he, -, hw, -⟩ := k9 hz
      exact mu_pos he (by simp only [if_pos he]; exact hw) hz
    refine pk_le 4000 k (fun z => fin (by by_cases c : rest = 0; exact c; have := hmu c; omega)) (fun z => ?_)
    rw [lg_cmp_le, show (0 : Int64) = lN 0 from rfl, pk_lLE k10 (by omega)]
    refine ⟨fun hz => fin (by omega), fun hz => ?_⟩
    have hr0 : rest ≠ 0 := by omega
    have hmuk := hmu hr0
    refine labt_s (P := fun nx => 0 < k → ¬ Bar (Y (k - 1)) (Y k) nx) h hC hN k3 hW k10 (fun t' ht' ps p1 p0 => ?_) (fun e he ht hw hP hmin => ⟨fun _ => ?_, fun y => absurd y (ne_m1 (by omega))⟩) (fun hz2 => ?_)
    · by_cases c : k = 0
      · rw [if_pos c]
        exact mayTurn_3 (p1 (fun y => by omega))
      · rw [if_neg c]
        refine mayTurn_s (B := fun x y z => Bar z y x) hT hN (Or.inr ⟨rfl, rfl⟩) ht' k3 (k4 (by omega)) (fun y => p1 (fun _ => y)) (fun y => p0 (fun y2 => y2 (by omega) y))
    · have hdn : (if e < m then W e else 0) ≠ 0 := by rw [if_pos he, hw]; exact hr0
      obtain ⟨⟨-, ho⟩, hor⟩ := hD.1 e hdn
      obtain ⟨r1, r2, r3, r4⟩ := h.2.2.2.1 e he
      have ho' := ho
      rw [r3] at ho'
      obtain ⟨cst, c1, c2, ec⟩ := open_of hC ho'
      have hwc1 : 0 < wC (vC e) := by unfold wC; omega
      -- what is left
      have hnext : rest = wC (vC e) + (rest - wC (vC e)) ∧ (rest - wC (vC e) ≠ 0 → ∃ f, f < m ∧ E f % 300 = E e / 300 ∧ W f = rest - wC (vC e) ∧ ¬ Bar (Y k) (E e / 300) (E f / 300)) := by
        rcases hor with ⟨-, q⟩ | ⟨-, f, q1, q2, q3, q4⟩
        · simp only [if_pos he, hw] at q
          exact ⟨by omega, fun y => absurd (by omega) y⟩
        · obtain ⟨q5, -⟩ := hD.2.2.2.1 f q1
          have hfm := (hD.1 f q5).1.1
          simp only [if_pos he, if_pos hfm, hw] at q4
          replace q3 : ¬ Bar (E e % 300) (E e / 300) (E f / 300) := q3
          rw [ht] at q3
          exact ⟨by omega, fun _ => ⟨f, hfm, q2, by omega, q3⟩⟩
      refine weightOf_s (by omega) c2 (r3.trans ec) (fun x6 e6 => originOf_s (by omega) (h.lt he) ?_)
      have q6 : x6 = lN (rest - wC (vC e)) := by rw [e6]; exact lN_sub (by omega)
      subst q6
      unfold w_X4_append
      refine pk_le 4001 (k + 1) (fun y => by omega) (fun y => ⟨vp_in_nI (by omega) (by omega), fun x8 e8 => ?_⟩)
      have q8 : x8 = nI (k + 1) := by rw [e8]; exact nI_1 k
      subst q8
      rw [nI_clamp (by omega), aI_upd, show nI (k + 1) + (1 : Int32) = nI (k + 1 + 1) from nI_1 _]
      have yk : ∀ j, j ≤ k → va_up Y (k + 1) (E e / 300) j = Y j := fun j hj => va_up_ne _ _ (by omega)
      have rk : ∀ j, j ≤ k → va_up rs (k + 1) (rest - wC (vC e)) j = rs j := fun j hj => va_up_ne _ _ (by omega)
      have hlt := mu_lt (D := fun j => if j < m then W j else 0) (w := rest - wC (vC e)) (by omega) he (by simp only [if_pos he]; exact hw) hr0
      have g := ih (k + 1) (rest - wC (vC e)) (va_up Y (k + 1) (E e / 300)) (va_up rs (k + 1) (rest - wC (vC e))) (by omega) (by omega) (by rw [va_up_self]; exact r1) (fun _ => by rw [show k + 1 - 1 = k by omega, yk k (by omega)]; exact k3) (by rw [yk 0 (by omega)]; exact k5) (by rw [rk 0 (by omega)]; exact k6) (va_up_self _ _ _) (fun j hj => ?_) (fun hz2 => ?_) (by omega)
      · rw [if_neg (by omega), show k + 1 - 1 = k by omega, yk k (by omega), va_up_self] at g
        exact g
      · by_cases c : j = k
        · subst c
          rw [yk j (by omega), va_up_self, rk j (by omega), va_up_self, k7]
          refine ⟨hr0, ⟨e, he, by omega, hw, by omega⟩, fun y2 => ?_, fun y2 hy2 hb2 => ?_, ?_⟩
          · rw [yk (j - 1) (by omega)]; exact hP y2
          · obtain ⟨e', he', ee', hw', -⟩ := hy2
            have t1 : E e' % 300 = Y j := by omega
            have t2 : E e' / 300 = y2 := by omega
            have := hmin e' he' t1 hw' (fun y3 => by have := hb2 y3; rw [yk (j - 1) (by omega)] at this; rw [t2]; exact this)
            omega
          · have ew : wC (Cs (E e / 300) (Y j)) = wC (vC e) := by rw [r3, ht]
            rw [ew]
            exact hnext.1
        · rw [yk j (by omega), yk (j + 1) (by omega), rk j (by omega), rk (j + 1) (by omega)]
          obtain ⟨p1, p2, p3, p4, p5⟩ := k8 j (by omega)
          refine ⟨p1, p2, fun y2 => ?_, fun y2 hy2 hb2 => p4 y2 hy2 (fun y3 => ?_), p5⟩
          · rw [yk (j - 1) (by omega)]; exact p3 y2
          · have := hb2 y3; rw [yk (j - 1) (by omega)] at this; exact this
      · obtain ⟨f, f1, f2', f3, f4⟩ := hnext.2 hz2
        refine ⟨f, f1, by rw [va_up_self]; exact f2', f3, fun _ => ?_⟩
        rw [show k + 1 - 1 = k by omega, yk k (by omega), va_up_self]
        exact f4
    · exfalso
      obtain ⟨e, he, ht, hw, hP⟩ := k9 hr0
      exact hz2 e he ht hw hP
/-! route() of the class -/
theorem route_X {N n m q : Nat} {E F K W A Q Y : Nat → Nat} {vC : Nat → Int32} {Cs : Nat → Nat → Int32} {Bar : Nat → Nat → Nat → Prop} {U : Nat → Int32} {vL vsB vN x1 x2 : Int32} {post : Int64 → Int32 → (Nat → Int32) → Int32 → Int32 → (Nat → Int64) → (Nat → Int32) → (Nat → Int32) → (Nat → Int32) → Prop} (h : RT n m E F vC Cs) (hC : CS n Cs) (hT : TT n q K Bar) (hN : 4000 < N) (hW : ∀ j, W j < 2 ^ 63)
    (hbad : ¬ (isN n x1 ∧ isN n x2) → post (-14) 0 (aI Y) vsB vN (aL W) (aI A) (aI Q) U) (hself : ∀ a, a < n → x1 = nI a → x2 = nI a → post 0 (nI 1) (aI (va_up Y 0 a)) vsB vN (aL W) (aI A) (aI Q) U)
    (hgo : ∀ a b, a < n → b < n → a ≠ b → x1 = nI a → x2 = nI b → ∀ v W' A' Q' vN' U' L Y', (∀ j, W' j < 2 ^ 63) → FA m b a E vC (fun x y z => Bar z y x) W' v → ((v ≠ 0 ∧ L ≤ 4001 ∧ ∃ rs, Way (VX m E W') (fun x y => wC (Cs y x)) Bar L Y' rs ∧ Y' 0 = a ∧ rs 0 = v) ∨ (v = 0 ∧ L = 0)) → post (if v = 0 then -3 else lN (v / 4096)) (nI L) (aI Y') 1 vN' (aL W') (aI A') (aI Q') U') :
    w_X4_route N vL (aI Y) vsB (nI n) (nI m) (aI E) vC (aI F) (nI q) (aI K) vN (aL W) (aI A) (aI Q) U x1 x2 post := by
  obtain ⟨n1, n2, n3⟩ := h.1
  unfold w_X4_route
  refine hasNode_s (by omega) (fun a ha ea => ⟨fun z => absurd z (by decide), fun _ => ?_⟩) (fun hz => ⟨fun _ => hbad (fun z => hz z.1), fun z => absurd rfl z⟩)
  refine hasNode_s (by omega) (fun b hb eb => ⟨fun _ => ⟨fun hne => ?_, fun he => ?_⟩, fun z => absurd z (by decide)⟩) (fun hz => ⟨fun z => absurd rfl z, fun _ => hbad (fun z => hz z.2)⟩)
  · subst ea eb
    have hab : a ≠ b := fun z => hne (by rw [z])
    refine begin_s (Bar := Bar) (B := fun x y z => Bar z y x) h hC hN hb (Or.inr rfl) hW (fun W1 A1 c1 Q1 U1 hS => ?_)
    unfold w_X2_weightOfFirstArrival
    refine arrive_l h hC hT hN (Or.inr ⟨rfl, rfl⟩) ha (fun v W' A' Q' vN' U' hW' hFA => ?_) N 0 c1 0 W1 A1 Q1 U1 _ (by omega) (by omega) hS (fun f hf => hf.elim)
    have hv : v < 2 ^ 62 := by
      obtain ⟨_, _, _, q | q⟩ := hFA
      · have := q.2.2.1; omega
      · have := q.1; omega
    rw [lg_cmp_eq, show (0 : Int64) = lN 0 from rfl, pk_lEQ (by omega) (by omega)]
    refine ⟨fun hv0 => ?_, fun hv0 => ?_⟩
    · obtain ⟨dn, M, hD, hor⟩ := hFA
      rcases hor with ⟨-, eM, hb4, ⟨e, he, hw, ht⟩, hmin⟩ | ⟨z, -⟩
      · have hFA' : FA m b a E vC (fun x y z => Bar z y x) W' v := ⟨dn, M, hD, Or.inl ⟨hv0, eM, hb4, ⟨e, he, hw, ht⟩, hmin⟩⟩
        unfold w_X4_layWay w_X4_append
        refine ⟨fun z => absurd z (by decide), fun _ => ⟨vp_in_nI (n := 0) (by omega) (by omega), ?_⟩⟩
        have g := layWay_l (N := N) (post := fun vxL_21 vxY_22 => post (lN v / (4096 : Int64)) vxL_21 vxY_22 1 vN' (aL W') (aI A') (aI Q') U') h hC hT hN hW' hD v a (fun L Y' rs hw1 hw2 hw3 hw4 => ?_) N 0 v (va_up Y 0 a) (fun _ => v) (by omega) (by have := mu_le (fun j => if j < m then W' j else 0) m v; omega) (by rw [va_up_self]; exact ha) (fun z => by omega) (va_up_self _ _ _) rfl rfl (fun j hj => by omega) (fun _ => ⟨e, he, by rw [va_up_self]; exact ht, hw, fun z => by omega⟩) (by omega)
        · rw [va_up_self] at g
          have e1 : upd (aI Y) (0 : Int32).toNatClampNeg (nI a) = aI (va_up Y 0 a) := aI_upd Y 0 a
          rw [e1]
          exact g
        · have := hgo a b ha hb hab rfl rfl v W' A' Q' vN' U' L Y' hW' hFA' (Or.inl ⟨hv0, hw2, rs, hw1, hw3, hw4⟩)
          rw [if_neg hv0] at this
          rw [show (4096 : Int64) = lN 4096 from rfl, pk_lDiv (by omega) (by omega) (by omega)]
          exact this
      · exact absurd z hv0
    · have := hgo a b ha hb hab rfl rfl v W' A' Q' vN' U' 0 Y hW' hFA (Or.inr ⟨hv0, rfl⟩)
      rw [if_pos hv0] at this
      exact this
  · subst ea eb
    have hab : a = b := nI_inj (n := n) (by omega) ha hb he
    subst hab
    unfold w_X4_append
    refine ⟨fun z => absurd z (by decide), fun _ => ⟨vp_in_nI (n := 0) (by omega) (by omega), ?_⟩⟩
    have e1 : upd (aI Y) (0 : Int32).toNatClampNeg (nI a) = aI (va_up Y 0 a) := aI_upd Y 0 a
    rw [e1]
    exact hself a ha rfl rfl
theorem within_X {N n m q : Nat} {E F K W A Q : Nat → Nat} {vC : Nat → Int32} {Cs : Nat → Nat → Int32} {Bar : Nat → Nat → Nat → Prop} {U : Nat → Int32} {vsB vN x1 : Int32} {x2 : Int64} {post : Int32 → Int32 → Int32 → (Nat → Int64) → (Nat → Int32) → (Nat → Int32) → (Nat → Int32) → Prop} (h : RT n m E F vC Cs) (hC : CS n Cs) (hT : TT n q K Bar) (hN : 4000 < N) (hW : ∀ j, W j < 2 ^ 63)
    (hbad : ¬ isN n x1 → post (-14) vsB vN (aL W) (aI A) (aI Q) U) (hneg : ∀ a, a < n → x1 = nI a → x2 < 0 → post 0 vsB vN (aL W) (aI A) (aI Q) U)
    (hgo : ∀ a mo, a < n → x1 = nI a → mo < 2 ^ 63 → x2 = lN mo → ∀ fd W' A' Q' vN' U' dn, (∀ j, W' j < 2 ^ 63) → WI m a E vC Bar W' dn ((mo + 1) * 4096) → (∀ v, v < n → (U' v ≠ -1 ↔ (v = a ∨ ∃ f, dn f ∧ E f % 300 = v))) → cn (fun v => decide (U' v ≠ -1)) n = 1 + fd → post (nI (1 + fd)) 0 vN' (aL W') (aI A') (aI Q') U') :
    w_X4_within N vsB (nI n) (nI m) (aI E) vC (aI F) (nI q) (aI K) vN (aL W) (aI A) (aI Q) U x1 x2 post := by
  obtain ⟨n1, n2, n3⟩ := h.1
  unfold w_X4_within
  refine hasNode_s (by omega) (fun a ha ea => ⟨fun _ => ?_, fun z => absurd z (by decide)⟩) (fun hz => ⟨fun z => absurd rfl z, fun _ => hbad hz⟩)
  rw [lg_cmp_ge]
  refine ⟨fun hge => ?_, fun hlt => hneg a ha ea (Int64.not_le.mp hlt)⟩
  obtain ⟨mo, hmo, em⟩ := pk_lOf (x := x2) (Int64.not_lt.mpr hge)
  subst ea em
  refine begin_s (Bar := Bar) (B := Bar) h hC hN ha (Or.inl rfl) hW (fun W1 A1 c1 Q1 U1 hS => ?_)
  unfold w_X2_countOtherNodes
  refine within_l h hC hT hN (Or.inl ⟨rfl, rfl⟩) hmo (fun fd W' A' Q' vN' U' dn hW' hI hr hc => ?_) N 0 c1 0 0 W1 A1 Q1 U1 _ (by omega) (by omega) hS (fun f hf => hf.elim) ?_
  · rw [show (1 : Int32) + nI fd = nI (1 + fd) from nI_add 1 fd]
    exact hgo a mo ha rfl hmo rfl fd W' A' Q' vN' U' dn hW' hI hr hc
  · have e0 : cn (fun _ => false) n = 0 := cn_zero (fun _ _ => rfl)
    have := cn_up (f := fun _ => false) (g := fun v => decide (U1 v ≠ -1) && decide (v < n)) (v := a) rfl (by
      have := (hS.2.2.2.1 a ha).1.mpr (Or.inl rfl)
      simp [this, ha]) (fun i hi => by
      by_cases c : i < n
      · have : ¬ U1 i ≠ -1 := fun z => by
          rcases (hS.2.2.2.1 i c).1.mp z with y | ⟨f, y, _⟩
          · exact hi y
          · exact y
        simp [this]
      · simp [c]) (n := n) ha
    rw [e0] at this
    rw [← this]
    exact cn_congr (fun i hi => by simp [hi])
