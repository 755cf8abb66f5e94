theorem RT.Fmono {n m : Nat} {E F : Nat → Nat} {vC : Nat → Int32} {Cs : Nat → Nat → Int32} (h : RT n m E F vC Cs) {a : Nat} : ∀ b, a ≤ b → b ≤ 300 → F a ≤ F b := by
  intro b
  induction b with
  | zero => intro h1 _; rw [show a = 0 by omega]; exact Nat.le_refl _
  | succ b ih =>
    intro h1 h2
    by_cases c : a = b + 1
    · rw [c]; exact Nat.le_refl _
    · exact Nat.le_trans (ih (by omega) (by omega)) (h.Fle (by omega))
/-- the class's search, between two steps -/
def SV (n m s : Nat) (E F : Nat → Nat) (vC : Nat → Int32) (B : Nat → Nat → Nat → Prop) (W A : Nat → Nat) (c : Nat) (Q : Nat → Nat) (U : Nat → Int32) (dn : Nat → Prop) (M tk : Nat) : Prop :=
  DInv s (fun j => E j / 300) (fun j => E j % 300) (fun j => j < m ∧ ¬ vC j ≤ 0) (fun j => wC (vC j)) B (fun j => if j < m then W j else 0) dn M ∧
  HpOk W A c ∧ (∀ y, hIn A c y ↔ (y < m ∧ W y ≠ 0 ∧ ¬ dn y)) ∧
  (∀ v, v < n → ((U v ≠ -1 ↔ (v = s ∨ ∃ f, dn f ∧ E f % 300 = v)) ∧ (U v ≠ -1 → ∃ u, U v = nI u ∧ WL F vC W Q v u))) ∧
  cn (fun j => decide (W j ≠ 0)) m = tk + c ∧ (∀ j, j < m → W j ≤ (tk + 1) * 4096000000001) ∧ (∀ j, W j < 2 ^ 63)
theorem SV.dn_lt {n m s : Nat} {E F : Nat → Nat} {vC : Nat → Int32} {B : Nat → Nat → Nat → Prop} {W A : Nat → Nat} {c : Nat} {Q : Nat → Nat} {U : Nat → Int32} {dn : Nat → Prop} {M tk : Nat} (h : SV n m s E F vC B W A c Q U dn M tk) {f : Nat} (hf : dn f) : f < m ∧ W f ≠ 0 ∧ W f ≤ M := by
  obtain ⟨q1, q2⟩ := h.1.2.2.2.1 f hf
  have q3 := (h.1.1 f q1).1.1
  simp only [if_pos q3] at q1 q2
  exact ⟨q3, q1, q2⟩
theorem sv_step {N n m q s c M tk : Nat} {E F K W A A1 Q : Nat → Nat} {vC : Nat → Int32} {Cs : Nat → Nat → Int32} {Bar B : Nat → Nat → Nat → Prop} {U : Nat → Int32} {dn : Nat → Prop} {vsB : Int32} {post : Int32 → (Nat → Int64) → (Nat → Int32) → (Nat → Int32) → (Nat → Int32) → Prop} (h : RT n m E F vC Cs) (hC : CS n Cs) (hT : TT n q K Bar) (hN : 4000 < N) (hB : (vsB = 0 ∧ B = Bar) ∨ (vsB = 1 ∧ B = fun x y z => Bar z y x)) (hS : SV n m s E F vC B W A (c + 1) Q U dn M tk) (htk : tk < 4000) (h1 : HpOk W A1 c) (h2 : ∀ y, hIn A1 c y ↔ (hIn A (c + 1) y ∧ y ≠ A 0))
    (hp : ∀ W' A' c' Q' U', SV n m s E F vC B W' A' c' Q' U' (fun e => dn e ∨ e = A 0) (W (A 0)) (tk + 1) → (∀ v, v ≠ E (A 0) % 300 → U' v = U v) → U' (E (A 0) % 300) ≠ -1 → post (nI c') (aL W') (aI A') (aI Q') U') : w_X2_spread N vsB (aI E) vC (aI F) (nI q) (aI K) (nI c) (aL W) (aI A1) (aI Q) U (nI (E (A 0) % 300)) (nI (E (A 0) / 300)) (lN (W (A 0))) post := by
  obtain ⟨n1, n2, n3⟩ := h.1
  obtain ⟨s1, s2, s3, s4, s5, s6, s7⟩ := hS
  obtain ⟨e0, he0⟩ : ∃ e0, e0 = A 0 := ⟨_, rfl⟩
  rw [← he0] at h2 hp ⊢
  obtain ⟨m1, m2, m3⟩ := (s3 e0).mp ⟨0, by omega, he0.symm⟩
  obtain ⟨r1, r2, r3, r4⟩ := h.2.2.2.1 e0 m1
  have hmin : ∀ y, y < m → W y ≠ 0 → ¬ dn y → W e0 ≤ W y := fun y a b d => by
    obtain ⟨i, hi, e⟩ := (s3 y).mpr ⟨a, b, d⟩
    rw [he0, ← e]
    exact hp_min s2.1 i hi
  have hw0 := s6 e0 m1
  have rch := s4 (E e0 % 300) r2
  have hseg : ∀ y, y < m → ((F (E e0 % 300) ≤ y ∧ y < F (E e0 % 300 + 1)) ↔ E y / 300 = E e0 % 300) := fun y hy => h.seg (by omega) hy
  have f2 := (h.2.2.1 (E e0 % 300 + 1) (by omega)).1
  refine spread_s (P := fun t' => ¬ B (E e0 / 300) (E e0 % 300) t') (tk := tk + 1) h hC hN r2 ?_ (by omega) (fun y hy => ?_) h1 s7 (by omega) (fun t' ht' ps p1 p0 => mayTurn_s hT hN hB r1 r2 ht' p1 (fun z => p0 (fun w => w z))) (fun W' A' c' Q' u' g1 g2 g3 g4 g5 g6 g7 g8 => ?_)
  · by_cases hu : U (E e0 % 300) = -1
    · refine Or.inl ⟨hu, fun y a b => ?_⟩
      by_cases hz : W y = 0
      · exact hz
      · exfalso
        have hym : y < m := by omega
        have ho := (hseg y hym).mp ⟨a, b⟩
        have q1 := (s1.1 y (by simp only [if_pos hym]; exact hz)).2
        refine rch.1.mpr ?_ hu
        rcases q1 with q1 | ⟨-, f, q2, q3, -⟩
        · exact Or.inl (by rw [← ho]; exact q1.1)
        · exact Or.inr ⟨f, q2, by rw [← ho]; exact q3⟩
    · exact Or.inr (rch.2 hu)
  · obtain ⟨q1, q2⟩ := (h2 y).mp hy
    obtain ⟨q3, q4, -⟩ := (s3 y).mp q1
    exact ⟨q3, q4⟩
  · have keep : ∀ y, W y ≠ 0 → W' y = W y := fun y hy => g2 y (fun z => hy z.1.2.2.2)
    have newc : ∀ y, y < m → (((F (E e0 % 300) ≤ y ∧ y < F (E e0 % 300 + 1) ∧ ¬ vC y ≤ 0 ∧ W y = 0) ∧ ¬ B (E e0 / 300) (E e0 % 300) (E y % 300)) ↔ ((y < m ∧ ¬ vC y ≤ 0) ∧ E y / 300 = E e0 % 300 ∧ W y = 0 ∧ ¬ B (E e0 / 300) (E y / 300) (E y % 300))) := fun y hy => by
      constructor
      · rintro ⟨⟨a, b, d, e⟩, g⟩
        have ho := (hseg y hy).mp ⟨a, b⟩
        exact ⟨⟨hy, d⟩, ho, e, by rw [ho]; exact g⟩
      · rintro ⟨⟨_, d⟩, ho, e, g⟩
        obtain ⟨a, b⟩ := (hseg y hy).mpr ho
        rw [ho] at g
        exact ⟨⟨a, b, d, e⟩, g⟩
    refine hp W' A' c' Q' _ ⟨?_, g3, fun y => ?_, fun v hv => ?_, g6, fun j hj => ?_, g5⟩ (fun v hv => if_neg hv) ?_
    · have st := s1.step (D' := fun j => if j < m then W' j else 0) (e0 := e0) (fun e _ => by show 0 < wC (vC e); unfold wC; omega) (by simp only [if_pos m1]; exact m2) m3 (fun e a b => by
          have hem : e < m := (s1.1 e a).1.1
          simp only [if_pos hem, if_pos m1] at a ⊢
          exact hmin e hem a b) (fun e a b d g => by
          have hem := a.1
          simp only [if_pos hem, if_pos m1] at d ⊢
          have := (newc e hem).mpr ⟨a, b, d, g⟩
          rw [g1 e this.1 this.2]
          omega) (fun e a => by
          by_cases hem : e < m
          · simp only [if_pos hem] at a ⊢
            exact g2 e (fun z => a ((newc e hem).mp z))
          · simp only [if_neg hem])
      simp only [if_pos m1] at st
      exact st
    · rw [g4 y, h2 y, s3 y]
      constructor
      · rintro (⟨⟨a, b, d⟩, e⟩ | ⟨q1, q2⟩)
        · exact ⟨a, by rw [keep y b]; exact b, fun z => z.elim d e⟩
        · have hym : y < m := by omega
          refine ⟨hym, by rw [g1 y q1 q2]; unfold wC; omega, fun z => ?_⟩
          rcases z with z | z
          · have := (s1.2.2.2.1 y z).1
            simp only [if_pos hym] at this
            exact this q1.2.2.2
          · rw [z] at q1; exact m2 q1.2.2.2
      · rintro ⟨a, b, d⟩
        by_cases hc : (F (E e0 % 300) ≤ y ∧ y < F (E e0 % 300 + 1) ∧ ¬ vC y ≤ 0 ∧ W y = 0) ∧ ¬ B (E e0 / 300) (E e0 % 300) (E y % 300)
        · exact Or.inr hc
        · rw [g2 y hc] at b
          exact Or.inl ⟨⟨a, b, fun z => d (Or.inl z)⟩, fun z => d (Or.inr z)⟩
    · by_cases hva : v = E e0 % 300
      · subst hva
        have e1 : upd U (E e0 % 300) (nI u') (E e0 % 300) = nI u' := if_pos rfl
        rw [e1]
        have := g7.1
        exact ⟨⟨fun _ => Or.inr ⟨e0, Or.inr rfl, rfl⟩, fun _ => ne_m1 (by omega)⟩, fun _ => ⟨u', rfl, g7⟩⟩
      · have e1 : upd U (E e0 % 300) (nI u') v = U v := if_neg hva
        rw [e1]
        refine ⟨?_, fun hz => ?_⟩
        · rw [(s4 v hv).1]
          constructor
          · rintro (a | ⟨f, a, b⟩)
            · exact Or.inl a
            · exact Or.inr ⟨f, Or.inl a, b⟩
          · rintro (a | ⟨f, a | a, b⟩)
            · exact Or.inl a
            · exact Or.inr ⟨f, a, b⟩
            · rw [a] at b; exact absurd b.symm hva
        · obtain ⟨u, eu, w1, w2, w3⟩ := (s4 v hv).2 hz
          have dis : ∀ p, F v ≤ p → p < F (v + 1) → p < F (E e0 % 300) ∨ F (E e0 % 300 + 1) ≤ p := fun p a b => by
            rcases Nat.lt_or_gt_of_ne hva with z | z
            · have := h.Fmono (a := v + 1) (E e0 % 300) (by omega) (by omega); omega
            · have := h.Fmono (a := E e0 % 300 + 1) v (by omega) (by omega); omega
          have qe : ∀ i, i < u → Q' (F v + i) = Q (F v + i) := fun i hi => g8 _ (dis _ (by omega) (by omega))
          refine ⟨u, eu, w1, fun i j hij hj => ?_, fun y => ?_⟩
          · rw [qe i (by omega), qe j hj]; exact w2 i j hij hj
          · have we : F v ≤ y → y < F (v + 1) → W' y = W y := fun a b => g2 y (fun z => by
              have := dis y a b
              omega)
            constructor
            · rintro ⟨i, hi, e⟩
              rw [qe i hi] at e
              obtain ⟨a, b, d, g⟩ := (w3 y).mp ⟨i, hi, e⟩
              exact ⟨a, b, d, by rw [we a b]; exact g⟩
            · rintro ⟨a, b, d, g⟩
              rw [we a b] at g
              obtain ⟨i, hi, e⟩ := (w3 y).mpr ⟨a, b, d, g⟩
              exact ⟨i, hi, by rw [qe i hi]; exact e⟩
    · by_cases hc : (F (E e0 % 300) ≤ j ∧ j < F (E e0 % 300 + 1) ∧ ¬ vC j ≤ 0 ∧ W j = 0) ∧ ¬ B (E e0 / 300) (E e0 % 300) (E j % 300)
      · rw [g1 j hc.1 hc.2]
        obtain ⟨-, -, v3, -⟩ := h.2.2.2.1 j hj
        have ho := hc.1.2.2.1
        rw [v3] at ho
        obtain ⟨cst, c1, c2, ec⟩ := open_of hC ho
        rw [v3, ec, wC_nI c2, Nat.succ_mul (tk + 1)]
        exact Nat.add_le_add hw0 (by omega)
      · rw [g2 j hc]
        exact Nat.le_trans (s6 j hj) (Nat.mul_le_mul_right _ (by omega))
    · show upd U (E e0 % 300) (nI u') (E e0 % 300) ≠ -1
      rw [show upd U (E e0 % 300) (nI u') (E e0 % 300) = nI u' from if_pos rfl]
      have := g7.1
      exact ne_m1 (by omega)
/-! begin() -/
theorem begin2_s {N n m st : Nat} {E F : Nat → Nat} {vC : Nat → Int32} {vsB vN vtN : Int32} {vtK vA vQ : Nat → Int32} {vW : Nat → Int64} {post : Int32 → Int32 → (Nat → Int64) → (Nat → Int32) → (Nat → Int32) → (Nat → Int32) → Prop} (hn : n ≤ 300) (hp : ∀ U1 : Nat → Int32, (∀ v, v < n → U1 v = -1) → w_X2_spread N vsB (aI E) vC (aI F) vtN vtK vN vW vA vQ U1 (nI st) (-1) 0 (fun vhN_5 vhW_6 vhA_7 vsQ_8 vsU_9 => post vsB vhN_5 vhW_6 vhA_7 vsQ_8 vsU_9)) : ∀ (t v : Nat) (Uc : Nat → Int32), v ≤ n → n - v < t → (∀ w, w < v → Uc w = -1) → w_X2_begin_b41 N (nI n) (aI E) vC (aI F) vtN vtK (nI st) post t vsB vN vW vA vQ Uc (nI v) := by
  intro t
  induction t with
  | zero => intro v Uc _ z; omega
  | succ t ih =>
    intro v Uc h1 h2 h3
    show w_X2_begin_b41_B N (nI n) (aI E) vC (aI F) vtN vtK (nI st) post _ vsB vN vW vA vQ Uc (nI v)
    unfold w_X2_begin_b41_B
    refine pk_le n v (fun z => hp Uc (fun w hw => h3 w (by omega))) (fun z => ⟨vp_in_nI (by omega) (by omega), fun y hy => ?_⟩)
    have ey : y = nI (v + 1) := by rw [hy]; exact nI_1 v
    subst ey
    rw [nI_clamp (by omega)]
    refine ih (v + 1) _ (by omega) (by omega) (fun w hw => ?_)
    by_cases c : w = v
    · exact if_pos c
    · exact (if_neg c).trans (h3 w (by omega))
theorem begin1_s {N n m st : Nat} {E F W : Nat → Nat} {vC : Nat → Int32} {vsB vN vtN : Int32} {vtK vA vQ vU : Nat → Int32} {post : Int32 → Int32 → (Nat → Int64) → (Nat → Int32) → (Nat → Int32) → (Nat → Int32) → Prop} (hn : n ≤ 300) (hm : m ≤ 4000) (hN : 4000 < N) (hp : ∀ (W1 : Nat → Nat) (U1 : Nat → Int32), (∀ j, j < m → W1 j = 0) → (∀ j, m ≤ j → W1 j = W j) → (∀ v, v < n → U1 v = -1) → w_X2_spread N vsB (aI E) vC (aI F) vtN vtK vN (aL W1) vA vQ U1 (nI st) (-1) 0 (fun vhN_5 vhW_6 vhA_7 vsQ_8 vsU_9 => post vsB vhN_5 vhW_6 vhA_7 vsQ_8 vsU_9)) : ∀ (t j : Nat) (Wc : Nat → Nat), j ≤ m → m - j < t → (∀ i, i < j → Wc i = 0) → (∀ i, j ≤ i → Wc i = W i) → w_X2_begin_b15 N (nI n) (nI m) (aI E) vC (aI F) vtN vtK (nI st) post t vsB vN (aL Wc) vA vQ vU (nI j) := by
  intro t
  induction t with
  | zero => intro j Wc _ z; omega
  | succ t ih =>
    intro j Wc h1 h2 h3 h4
    show w_X2_begin_b15_B N (nI n) (nI m) (aI E) vC (aI F) vtN vtK (nI st) post _ vsB vN (aL Wc) vA vQ vU (nI j)
    unfold w_X2_begin_b15_B
    refine pk_le m j (fun z => ?_) (fun z => ⟨vp_in_nI (by omega) (by omega), fun y hy => ?_⟩)
    · exact begin2_s (m := m) hn (fun U1 hU => hp Wc U1 (fun i hi => h3 i (by omega)) (fun i hi => h4 i (by omega)) hU) N 0 vU (by omega) (by omega) (fun w hw => by omega)
    · have ey : y = nI (j + 1) := by rw [hy]; exact nI_1 j
      subst ey
      rw [nI_clamp (by omega), show (0 : Int64) = lN 0 from rfl, aL_upd]
      refine ih (j + 1) _ (by omega) (by omega) (fun i hi => ?_) (fun i hi => ?_)
      · by_cases c : i = j
        · rw [c, va_up_self]
        · rw [va_up_ne _ _ c]; exact h3 i (by omega)
      · rw [va_up_ne _ _ (by omega)]; exact h4 i (by omega)
theorem begin_s {N n m q st : Nat} {E F K W A Q : Nat → Nat} {vC : Nat → Int32} {Cs : Nat → Nat → Int32} {Bar B : Nat → Nat → Nat → Prop} {U : Nat → Int32} {vsB vN x2 : Int32} {post : Int32 → Int32 → (Nat → Int64) → (Nat → Int32) → (Nat → Int32) → (Nat → Int32) → Prop} (h : RT n m E F vC Cs) (hC : CS n Cs) (hN : 4000 < N) (hst : st < n) (hx : x2 = 0 ∨ x2 = 1) (hW : ∀ j, W j < 2 ^ 63) (hp : ∀ W' A' c' Q' U', SV n m st E F vC B W' A' c' Q' U' (fun _ => False) 0 0 → post x2 (nI c') (aL W') (aI A') (aI Q') U') : w_X2_begin N vsB (nI n) (nI m) (aI E) vC (aI F) (nI q) (aI K) vN (aL W) (aI A) (aI Q) U (nI st) x2 post := by
  obtain ⟨n1, n2, n3⟩ := h.1
  unfold w_X2_begin
  refine ⟨hx, begin1_s (vN := 0) (W := W) n2 n3 hN (fun W1 U1 z1 z2 z3 => ?_) N 0 W (by omega) (by omega) (fun i hi => by omega) (fun _ _ => rfl)⟩
  have hseg : ∀ y, y < m → ((F st ≤ y ∧ y < F (st + 1)) ↔ E y / 300 = st) := fun y hy => h.seg (by omega) hy
  have f2 := (h.2.2.1 (st + 1) (by omega)).1
  refine spread_s (N := N) (c0 := 0) (w0 := 0) (tk := 0) (P := fun _ => True) (A0 := A) (Q0 := Q) (W0 := W1) h hC hN hst (Or.inl ⟨z3 st hst, fun y a b => z1 y (by omega)⟩) (by omega) (fun y ⟨i, hi, _⟩ => by omega) ⟨fun i _ z => by omega, fun i j z => by omega⟩ (fun j => ?_) (cn_zero (fun i hi => by simp [z1 i hi])) (fun t' _ ps p1 _ => mayTurn_1 (p1 trivial)) (fun W' A' c' Q' u' g1 g2 g3 g4 g5 g6 g7 g8 => ?_)
  · by_cases c : j < m
    · rw [z1 j c]; omega
    · rw [z2 j (by omega)]; exact hW j
  · have g7' := g7.1
    have nz : ∀ y, y < m → (W' y ≠ 0 ↔ (E y / 300 = st ∧ ¬ vC y ≤ 0)) := fun y hy => by
      constructor
      · intro hz
        by_cases c : F st ≤ y ∧ y < F (st + 1) ∧ ¬ vC y ≤ 0 ∧ W1 y = 0
        · exact ⟨(hseg y hy).mp ⟨c.1, c.2.1⟩, c.2.2.1⟩
        · rw [g2 y (fun z => c z.1), z1 y hy] at hz; exact absurd rfl hz
      · rintro ⟨a, b⟩
        obtain ⟨a1, a2⟩ := (hseg y hy).mpr a
        rw [g1 y ⟨a1, a2, b, z1 y hy⟩ trivial]
        unfold wC; omega
    have val : ∀ y, y < m → E y / 300 = st → ¬ vC y ≤ 0 → W' y = wC (vC y) := fun y hy a b => by
      obtain ⟨a1, a2⟩ := (hseg y hy).mpr a
      rw [g1 y ⟨a1, a2, b, z1 y hy⟩ trivial]
      omega
    refine hp W' A' c' Q' _ ⟨DInv.start (fun e he => ?_) (fun e a b => ?_), g3, fun y => ?_, fun v hv => ?_, g6, fun j hj => ?_, g5⟩
    · by_cases hem : e < m
      · simp only [if_pos hem] at he ⊢
        obtain ⟨a, b⟩ := (nz e hem).mp he
        exact ⟨⟨hem, b⟩, a, val e hem a b⟩
      · simp only [if_neg hem] at he
        exact absurd rfl he
    · simp only [if_pos a.1]
      exact val e a.1 b a.2
    · rw [g4 y]
      constructor
      · rintro (⟨i, hi, _⟩ | ⟨a, _⟩)
        · omega
        · exact ⟨by omega, by rw [g1 y a trivial]; unfold wC; omega, id⟩
      · rintro ⟨a, b, -⟩
        obtain ⟨p, r⟩ := (nz y a).mp b
        obtain ⟨a1, a2⟩ := (hseg y a).mpr p
        exact Or.inr ⟨⟨a1, a2, r, z1 y a⟩, trivial⟩
    · by_cases c : v = st
      · subst c
        have e1 : upd U1 v (nI u') v = nI u' := if_pos rfl
        rw [e1]
        exact ⟨⟨fun _ => Or.inl rfl, fun _ => ne_m1 (by omega)⟩, fun _ => ⟨u', rfl, g7⟩⟩
      · have e1 : upd U1 st (nI u') v = -1 := (if_neg c).trans (z3 v hv)
        rw [e1]
        exact ⟨⟨fun z => absurd rfl z, fun z => z.elim (fun z => absurd z c) (fun ⟨f, z, _⟩ => z.elim)⟩, fun z => absurd rfl z⟩
    · by_cases c : W' j = 0
      · omega
      · obtain ⟨a, b⟩ := (nz j hj).mp c
        rw [val j hj a b]
        obtain ⟨-, -, v3, -⟩ := h.2.2.2.1 j hj
        rw [v3] at b
        obtain ⟨cst, c1, c2, ec⟩ := open_of hC b
        rw [v3, ec, wC_nI c2]
        omega
/-! the first arrival -/
/-- what is known when the search for a goal has ended with r -/
def FA (m s goal : Nat) (E : Nat → Nat) (vC : Nat → Int32) (B : Nat → Nat → Nat → Prop) (W : Nat → Nat) (r : Nat) : Prop :=
  ∃ (dn : Nat → Prop) (M : Nat), DInv s (fun j => E j / 300) (fun j => E j % 300) (fun j => j < m ∧ ¬ vC j ≤ 0) (fun j => wC (vC j)) B (fun j => if j < m then W j else 0) dn M ∧
    ((r ≠ 0 ∧ r = M ∧ r ≤ 4000 * 4096000000001 ∧ (∃ e, e < m ∧ W e = r ∧ E e % 300 = goal) ∧ ∀ e, e < m → W e ≠ 0 → E e % 300 = goal → r ≤ W e) ∨ (r = 0 ∧ (∀ e, e < m → W e ≠ 0 → dn e) ∧ ∀ e, e < m → W e ≠ 0 → E e % 300 ≠ goal))
theorem arrive_l {N n m q s goal : Nat} {E F K : Nat → Nat} {vC : Nat → Int32} {Cs : Nat → Nat → Int32} {Bar B : Nat → Nat → Nat → Prop} {vsB : Int32} {post : Int64 → Int32 → (Nat → Int64) → (Nat → Int32) → (Nat → Int32) → (Nat → Int32) → Prop} (h : RT n m E F vC Cs) (hC : CS n Cs) (hT : TT n q K Bar) (hN : 4000 < N) (hB : (vsB = 0 ∧ B = Bar) ∨ (vsB = 1 ∧ B = fun x y z => Bar z y x)) (hg : goal < n) (hp : ∀ r W' A' Q' vN U', (∀ j, W' j < 2 ^ 63) → FA m s goal E vC B W' r → post (lN r) vN (aL W') (aI A') (aI Q') U') :
    ∀ (t tk c M : Nat) (W A Q : Nat → Nat) (U : Nat → Int32) (dn : Nat → Prop), 4000 < t + tk → tk ≤ 4000 → SV n m s E F vC B W A c Q U dn M tk → (∀ f, dn f → E f % 300 ≠ goal) → w_X2_weightOfFirstArrival_b2 N vsB (aI E) vC (aI F) (nI q) (aI K) (nI goal) post t (nI c) (aL W) (aI A) (aI Q) U (nI tk) := by
  obtain ⟨n1, n2, n3⟩ := h.1
  intro t
  induction t with
  | zero => intro tk c M W A Q U dn z1 z2; omega
  | succ t ih =>
    intro tk c M W A Q U dn k1 k2 hS hng
    show w_X2_weightOfFirstArrival_b2_B N vsB (aI E) vC (aI F) (nI q) (aI K) (nI goal) post _ (nI c) (aL W) (aI A) (aI Q) U (nI tk)
    unfold w_X2_weightOfFirstArrival_b2_B
    have none_ : c = 0 → FA m s goal E vC B W 0 := fun hc => by
      have all : ∀ e, e < m → W e ≠ 0 → dn e := fun e a b => by
        by_cases d : dn e
        · exact d
        · obtain ⟨i, hi, _⟩ := (hS.2.2.1 e).mpr ⟨a, b, d⟩
          omega
      exact ⟨dn, M, hS.1, Or.inr ⟨rfl, all, fun e a b => hng e (all e a b)⟩⟩
    have hcn := hS.2.2.2.2.1
    have hle := cn_le (fun j => decide (W j ≠ 0)) m
    refine pk_le 4000 tk (fun z => hp 0 W A Q _ U hS.2.2.2.2.2.2 (none_ (by omega))) (fun z => ?_)
    by_cases hc : c = 0
    · subst hc
      exact htake_0 ⟨fun y => absurd rfl y, fun _ => hp 0 W A Q _ U hS.2.2.2.2.2.2 (none_ rfl)⟩
    · obtain ⟨c', rfl⟩ : ∃ c', c = c' + 1 := ⟨c - 1, by omega⟩
      have hAm : ∀ i, i < c' + 1 → A i < m := fun i hi => ((hS.2.2.1 (A i)).mp ⟨i, hi, rfl⟩).1
      refine htake_s hN (by omega) (fun i hi => by have := hAm i hi; omega) hS.2.2.2.2.2.2 hS.2.1 (fun A1 a1 a2 => ?_)
      obtain ⟨m1, m2, m3⟩ := (hS.2.2.1 (A 0)).mp ⟨0, by omega, rfl⟩
      have hE := h.lt m1
      have rr := h.2.2.2.1 (A 0) m1
      refine ⟨fun _ => targetOf_s (by omega) hE ⟨fun hne => targetOf_s (by omega) hE (originOf_s (by omega) hE ⟨vp_in_nI (by omega) (by omega), ?_⟩), fun he => ⟨vp_in_nI (by omega) (by omega), ?_⟩⟩, fun y => absurd y (ne_m1 (by omega))⟩
      · rw [nI_clamp (by omega)]
        refine sv_step h hC hT hN hB hS z a1 a2 (fun W' A' c'' Q' U' hS' _ _ x2 e2 => ?_)
        have q2 : x2 = nI (tk + 1) := by rw [e2]; exact nI_1 tk
        subst q2
        refine ih (tk + 1) c'' _ W' A' Q' U' _ (by omega) (by omega) hS' (fun f hf => ?_)
        rcases hf with hf | hf
        · exact hng f hf
        · rw [hf]; exact fun y => hne (by rw [y])
      · rw [nI_clamp (by omega)]
        have eg : E (A 0) % 300 = goal := nI_inj (n := n) (by omega) rr.2.1 hg he
        refine hp (W (A 0)) W A1 Q _ U hS.2.2.2.2.2.2 ⟨dn, W (A 0), hS.1.raise (fun e a => ?_) (fun e a b => ?_), Or.inl ⟨m2, rfl, ?_, ⟨A 0, m1, rfl, eg⟩, fun e a b d => ?_⟩⟩
        · obtain ⟨q1, q2, q3⟩ := hS.dn_lt a
          simp only [if_pos q1]
          have := hS.1.2.2.2.2 (A 0) (by simp only [if_pos m1]; exact m2) m3
          simp only [if_pos m1] at this
          omega
        · have hem := (hS.1.1 e a).1.1
          simp only [if_pos hem] at a ⊢
          obtain ⟨i, hi, ei⟩ := (hS.2.2.1 e).mpr ⟨hem, a, b⟩
          rw [← ei]
          exact hp_min hS.2.1.1 i hi
        · exact Nat.le_trans (hS.2.2.2.2.2.1 (A 0) m1) (Nat.mul_le_mul_right _ (by omega))
        · have nd : ¬ dn e := fun y => hng e y d
          obtain ⟨i, hi, ei⟩ := (hS.2.2.1 e).mpr ⟨a, b, nd⟩
          rw [← ei]
          exact hp_min hS.2.1.1 i hi
/-! the nodes within a cost -/
/-- what is known when the search within 'mo' has ended: L is the limit in weights -/
def WI (m s : Nat) (E : Nat → Nat) (vC : Nat → Int32) (B : Nat → Nat → Nat → Prop) (W : Nat → Nat) (dn : Nat → Prop) (L : Nat) : Prop :=
  DInv s (fun j => E j / 300) (fun j => E j % 300) (fun j => j < m ∧ ¬ vC j ≤ 0) (fun j => wC (vC j)) B (fun j => if j < m then W j else 0) dn L ∧ ∀ e, dn e → e < m ∧ W e < L
theorem within_l {N n m q s mo : Nat} {E F K : Nat → Nat} {vC : Nat → Int32} {Cs : Nat → Nat → Int32} {Bar B : Nat → Nat → Nat → Prop} {vsB : Int32} {post : Int32 → Int32 → (Nat → Int64) → (Nat → Int32) → (Nat → Int32) → (Nat → Int32) → Prop} (h : RT n m E F vC Cs) (hC : CS n Cs) (hT : TT n q K Bar) (hN : 4000 < N) (hB : (vsB = 0 ∧ B = Bar) ∨ (vsB = 1 ∧ B = fun x y z => Bar z y x)) (hmo : mo < 2 ^ 63) (hp : ∀ fd W' A' Q' vN U' dn, (∀ j, W' j < 2 ^ 63) → WI m s E vC B W' dn ((mo + 1) * 4096) → (∀ v, v < n → (U' v ≠ -1 ↔ (v = s ∨ ∃ f, dn f ∧ E f % 300 = v))) → cn (fun v => decide (U' v ≠ -1)) n = 1 + fd → post (nI fd) vN (aL W') (aI A') (aI Q') U') :
    ∀ (t tk c M fd : Nat) (W A Q : Nat → Nat) (U : Nat → Int32) (dn : Nat → Prop), 4000 < t + tk → tk ≤ 4000 → SV n m s E F vC B W A c Q U dn M tk → (∀ f, dn f → W f < (mo + 1) * 4096) → cn (fun v => decide (U v ≠ -1)) n = 1 + fd → w_X2_countOtherNodes_b5 N vsB (aI E) vC (aI F) (nI q) (aI K) (lN mo) post t (nI c) (aL W) (aI A) (aI Q) U (nI fd) (nI tk) := by
  obtain ⟨n1, n2, n3⟩ := h.1
  intro t
  induction t with
  | zero => intro tk c M fd W A Q U dn z1 z2; omega
  | succ t ih =>
    intro tk c M fd W A Q U dn k1 k2 hS hlim hfd
    show w_X2_countOtherNodes_b5_B N vsB (aI E) vC (aI F) (nI q) (aI K) (lN mo) post _ (nI c) (aL W) (aI A) (aI Q) U (nI fd) (nI tk)
    unfold w_X2_countOtherNodes_b5_B
    have reach : ∀ v, v < n → (U v ≠ -1 ↔ (v = s ∨ ∃ f, dn f ∧ E f % 300 = v)) := fun v hv => (hS.2.2.2.1 v hv).1
    have fin : (∀ e, e < m → W e ≠ 0 → ¬ dn e → (mo + 1) * 4096 ≤ W e) → WI m s E vC B W dn ((mo + 1) * 4096) := fun hq => ⟨hS.1.raise (fun e a => by
        obtain ⟨q1, q2, q3⟩ := hS.dn_lt a
        simp only [if_pos q1]
        exact Nat.le_of_lt (hlim e a)) (fun e a b => by
        have hem := (hS.1.1 e a).1.1
        simp only [if_pos hem] at a ⊢
        exact hq e hem a b), fun e a => ⟨(hS.dn_lt a).1, hlim e a⟩⟩
    have none_ : c = 0 → WI m s E vC B W dn ((mo + 1) * 4096) := fun hc => fin (fun e a b d => by
      obtain ⟨i, hi, _⟩ := (hS.2.2.1 e).mpr ⟨a, b, d⟩
      omega)
    have hcn := hS.2.2.2.2.1
    have hle := cn_le (fun j => decide (W j ≠ 0)) m
    have hW := hS.2.2.2.2.2.2
    refine pk_le 4000 tk (fun z => hp fd W A Q _ U dn hW (none_ (by omega)) reach hfd) (fun z => ?_)
    by_cases hc : c = 0
    · subst hc
      exact htake_0 ⟨fun _ => hp fd W A Q _ U dn hW (none_ rfl) reach hfd, fun y => absurd rfl y⟩
    · obtain ⟨c', rfl⟩ : ∃ c', c = c' + 1 := ⟨c - 1, by omega⟩
      have hAm : ∀ i, i < c' + 1 → A i < m := fun i hi => ((hS.2.2.1 (A i)).mp ⟨i, hi, rfl⟩).1
      refine htake_s hN (by omega) (fun i hi => by have := hAm i hi; omega) hW hS.2.1 (fun A1 a1 a2 => ?_)
      obtain ⟨m1, m2, m3⟩ := (hS.2.2.1 (A 0)).mp ⟨0, by omega, rfl⟩
      have hE := h.lt m1
      have rr := h.2.2.2.1 (A 0) m1
      have hmin : ∀ e, e < m → W e ≠ 0 → ¬ dn e → W (A 0) ≤ W e := fun e a b d => by
        obtain ⟨i, hi, ei⟩ := (hS.2.2.1 e).mpr ⟨a, b, d⟩
        rw [← ei]
        exact hp_min hS.2.1.1 i hi
      refine ⟨fun y => absurd y (ne_m1 (by omega)), fun _ => ⟨vp_in_nI (by omega) (by omega), ?_⟩⟩
      have hdv : W (A 0) / 4096 < 2 ^ 63 := by have := hW (A 0); omega
      rw [nI_clamp (by omega), lg_cmp_le, show aL W (A 0) = lN (W (A 0)) from rfl, show (4096 : Int64) = lN 4096 from rfl, pk_lDiv (hW _) (by omega) (by omega), pk_lLE hdv hmo]
      refine ⟨fun hle2 => targetOf_s (by omega) hE ?_, fun hgt => hp fd W A1 Q _ U dn hW (fin (fun e a b d => Nat.le_trans (by omega) (hmin e a b d))) reach hfd⟩
      have go : ∀ fd', (∀ U' : Nat → Int32, (∀ v, v ≠ E (A 0) % 300 → U' v = U v) → U' (E (A 0) % 300) ≠ -1 → cn (fun v => decide (U' v ≠ -1)) n = 1 + fd') → w_X2_countOtherNodes_b67 N vsB (aI E) vC (aI F) (nI q) (aI K) post (w_X2_countOtherNodes_b5 N vsB (aI E) vC (aI F) (nI q) (aI K) (lN mo) post t) (nI c') (aL W) (aI A1) (aI Q) U (nI fd') (nI tk) (nI (A 0)) := by
        intro fd' hq
        unfold w_X2_countOtherNodes_b67
        refine targetOf_s (by omega) hE (originOf_s (by omega) hE ⟨vp_in_nI (by omega) (by omega), ?_⟩)
        rw [nI_clamp (by omega)]
        refine sv_step h hC hT hN hB hS z a1 a2 (fun W' A' c'' Q' U' hS' hU1 hU2 x4 e4 => ?_)
        have q4 : x4 = nI (tk + 1) := by rw [e4]; exact nI_1 tk
        subst q4
        refine ih (tk + 1) c'' _ fd' W' A' Q' U' _ (by omega) (by omega) hS' (fun f hf => ?_) (hq U' hU1 hU2)
        -- the values of those that are done are as before
        have hfm := hS'.dn_lt hf
        have : W' f ≤ W (A 0) := hfm.2.2
        omega
      refine ⟨vp_in_nI (by omega) (by omega), fun hu => ?_, fun hu x3 e3 => ?_⟩
      · rw [nI_clamp (by omega)] at hu
        refine go fd (fun U' hU1 hU2 => ?_)
        rw [← hfd]
        refine cn_congr (fun v hv => ?_)
        by_cases c1 : v = E (A 0) % 300
        · rw [c1]; simp only [decide_eq_true hU2, decide_eq_true hu]
        · rw [hU1 v c1]
      · rw [nI_clamp (by omega)] at hu
        have q3 : x3 = nI (fd + 1) := by rw [e3]; exact nI_1 fd
        subst q3
        refine go (fd + 1) (fun U' hU1 hU2 => ?_)
        rw [cn_up (f := fun v => decide (U v ≠ -1)) (v := E (A 0) % 300) (by simp [hu]) (decide_eq_true hU2) (fun v hv => by rw [hU1 v hv]) rr.2.1, hfd]
        omega
