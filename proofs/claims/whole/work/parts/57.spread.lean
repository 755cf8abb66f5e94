/-! the class's search: the arcs out of one node -/
def wC (x : Int32) : Nat := x.toNatClampNeg * 4096 + 1
theorem open_of {n : Nat} {Cs : Nat → Nat → Int32} (hC : CS n Cs) {a b : Nat} (h : ¬ Cs a b ≤ 0) : ∃ c : Nat, 1 ≤ c ∧ c ≤ 1000000000 ∧ Cs a b = nI c := by
  have h0 : Cs a b ≠ 0 := fun z => h (by rw [z]; exact Int32.le_refl _)
  obtain ⟨-, -, c, c1, c2, e | e⟩ := hC.2.2 a b h0
  · exact ⟨c, c1, c2, e⟩
  · exfalso
    apply h
    rw [e, Int32.le_iff_toInt_le, sb_negT (by omega)]
    have : (0 : Int32).toInt = 0 := by decide
    omega
theorem wC_nI {c : Nat} (h : c ≤ 1000000000) : wC (nI c) = c * 4096 + 1 := by
  unfold wC
  rw [nI_clamp (by omega)]
theorem targetOf_s {N e : Nat} {E : Nat → Nat} {post : Int32 → Prop} (he : e < 4000) (hE : E e < 90000) (hp : post (nI (E e % 300))) : w_X1_targetOf N (aI E) (nI e) post := by
  unfold w_X1_targetOf
  rw [nI_clamp (by omega), show aI E e = nI (E e) from rfl, i300, pk_rem (by omega) (by omega) (by omega)]
  exact ⟨vp_in_nI he (by omega), hp⟩
theorem originOf_s {N e : Nat} {E : Nat → Nat} {post : Int32 → Prop} (he : e < 4000) (hE : E e < 90000) (hp : post (nI (E e / 300))) : w_X1_originOf N (aI E) (nI e) post := by
  unfold w_X1_originOf
  rw [nI_clamp (by omega), show aI E e = nI (E e) from rfl, i300, pk_div (by omega) (by omega) (by omega)]
  exact ⟨vp_in_nI he (by omega), hp⟩
theorem weightOf_s {N e c : Nat} {vC : Nat → Int32} {post : Int64 → Prop} (he : e < 4000) (hc : c ≤ 1000000000) (ev : vC e = nI c) (hp : post (lN (wC (vC e)))) : w_X1_weightOf N vC (nI e) post := by
  unfold w_X1_weightOf
  rw [ev, wC_nI hc] at hp
  rw [nI_clamp (by omega), ev, nI_l (by omega), show (4096 : Int64) = lN 4096 from rfl, lN_mul, lN_1]
  exact ⟨vp_in_nI he (by omega), hp⟩
theorem isOpen_s {N e : Nat} {vC : Nat → Int32} {post : Int32 → Prop} (he : e < 4000) (h1 : ¬ vC e ≤ 0 → post 1) (h0 : vC e ≤ 0 → post 0) : w_X1_isOpen N vC (nI e) post := by
  unfold w_X1_isOpen
  rw [nI_clamp (by omega)]
  exact ⟨vp_in_nI he (by omega), h0, h1⟩
theorem mayTurn_s {N n q : Nat} {K : Nat → Nat} {Bar B : Nat → Nat → Nat → Prop} {vsB : Int32} {a at_ c : Nat} {post : Int32 → Prop} (hT : TT n q K Bar) (hN : 4000 < N) (hB : (vsB = 0 ∧ B = Bar) ∨ (vsB = 1 ∧ B = fun x y z => Bar z y x)) (ha : a < n) (hat : at_ < n) (hc : c < n) (h1 : ¬ B a at_ c → post 1) (h0 : B a at_ c → post 0) : w_X2_mayTurn N vsB (nI q) (aI K) (nI a) (nI at_) (nI c) post := by
  have hn := hT.1.1
  unfold w_X2_mayTurn
  refine ⟨fun z => absurd z (ne_m1 (by omega)), fun _ => ⟨fun _ => ?_, fun z => absurd z (ne_m1 (by omega))⟩⟩
  rcases hB with ⟨e1, e2⟩ | ⟨e1, e2⟩
  · subst e1 e2
    refine ⟨fun _ => isBarred_s hT hN ha hat hc (fun z => ⟨fun _ => h0 z, fun y => absurd y (by decide)⟩) (fun z => ⟨fun y => absurd rfl y, fun _ => h1 z⟩), fun z => absurd rfl z⟩
  · subst e1 e2
    refine ⟨fun z => absurd z (by decide), fun _ => isBarred_s hT hN hc hat ha (fun z => ⟨fun _ => h0 z, fun y => absurd y (by decide)⟩) (fun z => ⟨fun y => absurd rfl y, fun _ => h1 z⟩)⟩
theorem mayTurn_1 {N : Nat} {vsB vtN : Int32} {vtK : Nat → Int32} {x2 x3 : Int32} {post : Int32 → Prop} (h : post 1) : w_X2_mayTurn N vsB vtN vtK (-1) x2 x3 post := by
  unfold w_X2_mayTurn
  exact ⟨fun _ => h, fun z => absurd rfl z⟩
theorem mayTurn_3 {N : Nat} {vsB vtN : Int32} {vtK : Nat → Int32} {x1 x2 : Int32} {post : Int32 → Prop} (h : post 1) : w_X2_mayTurn N vsB vtN vtK x1 x2 (-1) post := by
  unfold w_X2_mayTurn
  exact ⟨fun _ => h, fun _ => ⟨fun z => absurd rfl z, fun _ => h⟩⟩
/-- the waiting arcs of node v: u of them, in their order -/
def WL (F : Nat → Nat) (vC : Nat → Int32) (W Q : Nat → Nat) (v u : Nat) : Prop := F v + u ≤ F (v + 1) ∧ (∀ i j, i < j → j < u → Q (F v + i) < Q (F v + j)) ∧ ∀ y, (∃ i, i < u ∧ Q (F v + i) = y) ↔ (F v ≤ y ∧ y < F (v + 1) ∧ ¬ vC y ≤ 0 ∧ W y = 0)
theorem gather_l {N n m at_ : Nat} {E F Q : Nat → Nat} {vC : Nat → Int32} {Cs : Nat → Nat → Int32} {U : Nat → Int32} {post : (Nat → Int32) → (Nat → Int32) → Prop} (h : RT n m E F vC Cs) (ha : at_ < n)
    (hp : ∀ Q' g, F at_ + g ≤ F (at_ + 1) → (∀ p, p < F at_ ∨ F (at_ + 1) ≤ p → Q' p = Q p) → (∀ i j, i < j → j < g → Q' (F at_ + i) < Q' (F at_ + j)) → (∀ y, (∃ i, i < g ∧ Q' (F at_ + i) = y) ↔ (F at_ ≤ y ∧ y < F (at_ + 1) ∧ ¬ vC y ≤ 0)) → post (aI Q') (upd U at_ (nI g))) :
    ∀ (t j0 g : Nat) (Qc : Nat → Nat), F at_ ≤ j0 → j0 ≤ F (at_ + 1) → F at_ + g ≤ j0 → F (at_ + 1) - j0 < t → (∀ p, p < F at_ ∨ F (at_ + 1) ≤ p → Qc p = Q p) → (∀ i j, i < j → j < g → Qc (F at_ + i) < Qc (F at_ + j)) → (∀ y, (∃ i, i < g ∧ Qc (F at_ + i) = y) ↔ (F at_ ≤ y ∧ y < j0 ∧ ¬ vC y ≤ 0)) → w_X2_gatherOpenArcs_b15 N vC (aI F) (nI at_) post t (aI Qc) U (nI (F at_)) (nI g) (nI j0) := by
  obtain ⟨n1, n2, n3⟩ := h.1
  have f2 := (h.2.2.1 (at_ + 1) (by omega)).1
  intro t
  induction t with
  | zero => intro j0 g Qc _ _ _ z; omega
  | succ t ih =>
    intro j0 g Qc h1 h2 h3 h4 h5 h6 h7
    show w_X2_gatherOpenArcs_b15_B N vC (aI F) (nI at_) post _ (aI Qc) U (nI (F at_)) (nI g) (nI j0)
    unfold w_X2_gatherOpenArcs_b15_B
    rw [show nI at_ + (1 : Int32) = nI (at_ + 1) from nI_1 at_, nI_clamp (by omega), nI_clamp (by omega)]
    refine ⟨vp_in_nI (by omega) (by omega), pk_le (F (at_ + 1)) j0 (fun z => ⟨vp_in_nI (by omega) (by omega), ?_⟩) (fun z => ?_) rfl rfl (by omega) (by omega)⟩
    · have e : j0 = F (at_ + 1) := by omega
      subst e
      exact hp Qc g h3 h5 h6 h7
    · refine isOpen_s (by omega) (fun ho => ⟨fun y => absurd y (by decide), fun _ => ?_⟩) (fun ho => ⟨fun _ x4 e4 => ?_, fun y => absurd rfl y⟩)
      · rw [nI_add, nI_clamp (by omega), aI_upd]
        refine ⟨vp_in_nI (by omega) (by omega), fun x3 e3 x4 e4 => ?_⟩
        have q3 : x3 = nI (g + 1) := by rw [e3]; exact nI_1 g
        have q4 : x4 = nI (j0 + 1) := by rw [e4]; exact nI_1 j0
        subst q3 q4
        have low : ∀ i, i < g → Qc (F at_ + i) < j0 := fun i hi => ((h7 (Qc (F at_ + i))).mp ⟨i, hi, rfl⟩).2.1
        have up1 : ∀ i, i < g → va_up Qc (F at_ + g) j0 (F at_ + i) = Qc (F at_ + i) := fun i hi => va_up_ne _ _ (by omega)
        refine ih (j0 + 1) (g + 1) _ (by omega) (by omega) (by omega) (by omega) (fun p hp1 => ?_) (fun i j hij hj => ?_) (fun y => ⟨fun hy => ?_, fun hy => ?_⟩)
        · rw [va_up_ne _ _ (by omega)]; exact h5 p hp1
        · rw [up1 i (by omega)]
          by_cases c : j = g
          · subst c
            rw [va_up_self]; exact low i hij
          · rw [up1 j (by omega)]; exact h6 i j hij (by omega)
        · obtain ⟨i, hi, e⟩ := hy
          by_cases c : i = g
          · subst c
            rw [va_up_self] at e
            subst e
            exact ⟨h1, by omega, ho⟩
          · rw [up1 i (by omega)] at e
            obtain ⟨r1, r2, r3⟩ := (h7 y).mp ⟨i, by omega, e⟩
            exact ⟨r1, by omega, r3⟩
        · obtain ⟨r1, r2, r3⟩ := hy
          by_cases c : y = j0
          · exact ⟨g, by omega, by rw [va_up_self]; exact c.symm⟩
          · obtain ⟨i, hi, e⟩ := (h7 y).mpr ⟨r1, by omega, r3⟩
            exact ⟨i, by omega, by rw [up1 i hi]; exact e⟩
      · have q4 : x4 = nI (j0 + 1) := by rw [e4]; exact nI_1 j0
        subst q4
        refine ih (j0 + 1) g Qc (by omega) (by omega) (by omega) (by omega) h5 h6 (fun y => ⟨fun hy => ?_, fun hy => ?_⟩)
        · obtain ⟨r1, r2, r3⟩ := (h7 y).mp hy
          exact ⟨r1, by omega, r3⟩
        · obtain ⟨r1, r2, r3⟩ := hy
          refine (h7 y).mpr ⟨r1, ?_, r3⟩
          by_cases c : y = j0
          · rw [c] at r3; exact absurd ho r3
          · omega
theorem gather_s {N n m at_ : Nat} {E F Q : Nat → Nat} {vC : Nat → Int32} {Cs : Nat → Nat → Int32} {U : Nat → Int32} {post : (Nat → Int32) → (Nat → Int32) → Prop} (h : RT n m E F vC Cs) (hN : 4000 < N) (ha : at_ < n)
    (hp : ∀ Q' g, F at_ + g ≤ F (at_ + 1) → (∀ p, p < F at_ ∨ F (at_ + 1) ≤ p → Q' p = Q p) → (∀ i j, i < j → j < g → Q' (F at_ + i) < Q' (F at_ + j)) → (∀ y, (∃ i, i < g ∧ Q' (F at_ + i) = y) ↔ (F at_ ≤ y ∧ y < F (at_ + 1) ∧ ¬ vC y ≤ 0)) → post (aI Q') (upd U at_ (nI g))) : w_X2_gatherOpenArcs N vC (aI F) (aI Q) U (nI at_) post := by
  obtain ⟨n1, n2, n3⟩ := h.1
  have f2 := (h.2.2.1 (at_ + 1) (by omega)).1
  have f3 := h.Fle (a := at_) (by omega)
  unfold w_X2_gatherOpenArcs
  rw [nI_clamp (by omega)]
  refine ⟨vp_in_nI (by omega) (by omega), fun x e => ?_⟩
  have q : x = nI (F at_) := e
  subst q
  exact gather_l h ha hp N (F at_) 0 Q (Nat.le_refl _) f3 (by omega) (by omega) (fun _ _ => rfl) (fun i j _ z => by omega) (fun y => ⟨fun ⟨i, hi, _⟩ => by omega, fun ⟨a, b, _⟩ => by omega⟩)
theorem spread_l {N n m at_ u w0 c0 tk : Nat} {E F W0 A0 Q0 : Nat → Nat} {vC : Nat → Int32} {Cs : Nat → Nat → Int32} {U : Nat → Int32} {P : Nat → Prop} {vsB vtN x2 : Int32} {vtK : Nat → Int32} {post : Int32 → (Nat → Int64) → (Nat → Int32) → (Nat → Int32) → (Nat → Int32) → Prop} (h : RT n m E F vC Cs) (hC : CS n Cs) (hN : 4000 < N) (ha : at_ < n) (hU : U at_ = nI u) (hwl : WL F vC W0 Q0 at_ u) (hw0 : w0 < 2 ^ 62) (hA0 : ∀ y, hIn A0 c0 y → y < m ∧ W0 y ≠ 0)
    (hmt : ∀ t', t' < n → ∀ ps : Int32 → Prop, (P t' → ps 1) → (¬ P t' → ps 0) → w_X2_mayTurn N vsB vtN vtK x2 (nI at_) (nI t') ps)
    (hp : ∀ W' A' c' Q' u', (∀ y, (F at_ ≤ y ∧ y < F (at_ + 1) ∧ ¬ vC y ≤ 0 ∧ W0 y = 0) → P (E y % 300) → W' y = w0 + wC (vC y)) → (∀ y, ¬ ((F at_ ≤ y ∧ y < F (at_ + 1) ∧ ¬ vC y ≤ 0 ∧ W0 y = 0) ∧ P (E y % 300)) → W' y = W0 y) → HpOk W' A' c' → (∀ y, hIn A' c' y ↔ (hIn A0 c0 y ∨ ((F at_ ≤ y ∧ y < F (at_ + 1) ∧ ¬ vC y ≤ 0 ∧ W0 y = 0) ∧ P (E y % 300)))) → (∀ j, W' j < 2 ^ 63) → cn (fun j => decide (W' j ≠ 0)) m = tk + c' → WL F vC W' Q' at_ u' → (∀ p, p < F at_ ∨ F (at_ + 1) ≤ p → Q' p = Q0 p) → post (nI c') (aL W') (aI A') (aI Q') (upd U at_ (nI u'))) :
    ∀ (t i kp c : Nat) (W A Q : Nat → Nat), kp ≤ i → i ≤ u → u - i < t → (∀ y, (∃ i', i' < i ∧ Q0 (F at_ + i') = y) → P (E y % 300) → W y = w0 + wC (vC y)) → (∀ y, ¬ ((∃ i', i' < i ∧ Q0 (F at_ + i') = y) ∧ P (E y % 300)) → W y = W0 y) → HpOk W A c → (∀ y, hIn A c y ↔ (hIn A0 c0 y ∨ ((∃ i', i' < i ∧ Q0 (F at_ + i') = y) ∧ P (E y % 300)))) → (∀ j, W j < 2 ^ 63) → cn (fun j => decide (W j ≠ 0)) m = tk + c → (∀ p, (p < F at_ ∨ F at_ + i ≤ p) → Q p = Q0 p) → (∀ a b, a < b → b < kp → Q (F at_ + a) < Q (F at_ + b)) → (∀ y, (∃ a, a < kp ∧ Q (F at_ + a) = y) ↔ ((∃ i', i' < i ∧ Q0 (F at_ + i') = y) ∧ ¬ P (E y % 300))) →
      w_X2_spread_b32 N vsB (aI E) vC vtN vtK (nI at_) x2 (lN w0) post t (nI c) (aL W) (aI A) (aI Q) U (nI (F at_)) (nI kp) (nI i) := by
  obtain ⟨n1, n2, n3⟩ := h.1
  have f2 := (h.2.2.1 (at_ + 1) (by omega)).1
  obtain ⟨l1, l2, l3⟩ := hwl
  intro t
  induction t with
  | zero => intro i kp c W A Q _ _ z; omega
  | succ t ih =>
    intro i kp c W A Q k1 k2 k3 k4 k5 k6 k7 k8 k9 k10 k11 k12
    show w_X2_spread_b32_B N vsB (aI E) vC vtN vtK (nI at_) x2 (lN w0) post _ (nI c) (aL W) (aI A) (aI Q) U (nI (F at_)) (nI kp) (nI i)
    unfold w_X2_spread_b32_B
    rw [nI_clamp (by omega), hU, nI_add, nI_clamp (by omega), nI_add, nI_clamp (by omega)]
    refine ⟨vp_in_nI (by omega) (by omega), pk_le u i (fun z => ?_) (fun z => ⟨vp_in_nI (by omega) (by omega), fun x8 e8 => ?_⟩)⟩
    · have e : i = u := by omega
      subst e
      refine hp W A c Q kp (fun y hy hP => k4 y ((l3 y).mpr hy) hP) (fun y hy => k5 y (fun z => hy ⟨(l3 y).mp z.1, z.2⟩)) k6 (fun y => by rw [k7 y, l3 y]) k8 k9 ⟨by omega, k11, fun y => ?_⟩ (fun p hp1 => k10 p (by omega))
      rw [k12 y, l3 y]
      constructor
      · rintro ⟨⟨q1, q2, q3, q4⟩, q5⟩
        exact ⟨q1, q2, q3, by rw [k5 y (fun z => q5 z.2)]; exact q4⟩
      · rintro ⟨q1, q2, q3, q4⟩
        by_cases hP : P (E y % 300)
        · exfalso
          by_cases hz : W0 y = 0
          · have := k4 y ((l3 y).mpr ⟨q1, q2, q3, hz⟩) hP
            unfold wC at this
            omega
          · rw [k5 y (fun z => hz ((l3 y).mp z.1).2.2.2)] at q4
            exact hz q4
        · by_cases hz : W0 y = 0
          · exact ⟨⟨q1, q2, q3, hz⟩, hP⟩
          · rw [k5 y (fun z => hP z.2)] at q4
            exact absurd q4 hz
    · have eQ : Q (F at_ + i) = Q0 (F at_ + i) := k10 _ (by omega)
      obtain ⟨e, he⟩ : ∃ e, e = Q0 (F at_ + i) := ⟨_, rfl⟩
      have q8 : x8 = nI e := by rw [e8, he, ← eQ]; rfl
      subst q8
      obtain ⟨g1, g2, g3, g4⟩ := (l3 e).mp ⟨i, by omega, he.symm⟩
      have hem : e < m := by omega
      have hE := h.lt hem
      obtain ⟨r1, r2, r3, r4⟩ := h.2.2.2.1 e hem
      have nin : ¬ ∃ i', i' < i ∧ Q0 (F at_ + i') = e := fun ⟨i', a, b⟩ => by
        have := l2 i' i a (by omega)
        omega
      have nxt : ∀ y, (∃ i', i' < i + 1 ∧ Q0 (F at_ + i') = y) ↔ ((∃ i', i' < i ∧ Q0 (F at_ + i') = y) ∨ y = e) := fun y => by
        constructor
        · rintro ⟨i', a, b⟩
          by_cases c' : i' = i
          · subst c'; exact Or.inr (by rw [he]; exact b.symm)
          · exact Or.inl ⟨i', by omega, b⟩
        · rintro (⟨i', a, b⟩ | b)
          · exact ⟨i', by omega, b⟩
          · exact ⟨i, by omega, by rw [b]; exact he.symm⟩
      refine targetOf_s (by omega) hE ?_
      refine hmt (E e % 300) r2 _ (fun hP => ⟨fun y => absurd y (by decide), fun _ => ?_⟩) (fun hP => ⟨fun _ => ⟨vp_in_nI (by omega) (by omega), fun x6 e6 x7 e7 => ?_⟩, fun y => absurd rfl y⟩)
      · rw [r3] at g3
        obtain ⟨cst, c1, c2, ec⟩ := open_of hC g3
        refine weightOf_s (by omega) c2 (r3.trans ec) ⟨vp_in_nI (by omega) (by omega), ?_⟩
        have hwc : wC (vC e) ≤ 4096000000001 := by rw [r3, ec, wC_nI c2]; omega
        have hwc1 : 0 < wC (vC e) := by unfold wC; omega
        rw [lN_add, nI_clamp (by omega), aL_upd]
        have nheap : ¬ hIn A c e := fun z => by
          rcases (k7 e).mp z with q | q
          · exact (hA0 e q).2 g4
          · exact nin q.1
        have We : W e = 0 := by rw [k5 e (fun z => nin z.1)]; exact g4
        have hclt : c < 4000 := by
          have := cn_lt (f := fun j => decide (W j ≠ 0)) (v := e) (by simp [We]) hem
          omega
        have memLt : ∀ y, hIn A c y → y < m := fun y hy => by
          rcases (k7 y).mp hy with q | q
          · exact (hA0 y q).1
          · have := (l3 y).mp (by obtain ⟨i', a, b⟩ := q.1; exact ⟨i', by omega, b⟩)
            omega
        refine hadd_s hN hclt (fun i' hi' => ?_) (by omega) (fun j => ?_) ⟨hp_congr k6.1 (fun i' hi' => va_up_ne _ _ (fun z => nheap ⟨i', hi', z⟩)), k6.2⟩ nheap (fun A' q1 q2 x7 e7 => ?_)
        · have := memLt (A i') ⟨i', hi', rfl⟩
          omega
        · by_cases c' : j = e
          · rw [c', va_up_self]; omega
          · rw [va_up_ne _ _ c']; exact k8 j
        · have q7 : x7 = nI (i + 1) := by rw [e7]; exact nI_1 i
          subst q7
          refine ih (i + 1) kp (c + 1) _ A' Q (by omega) (by omega) (by omega) (fun y hy hPy => ?_) (fun y hy => ?_) q1 (fun y => ?_) (fun j => ?_) ?_ (fun p hp1 => k10 p (by omega)) k11 (fun y => ?_)
          · rcases (nxt y).mp hy with q | q
            · rw [va_up_ne _ _ (fun z => nin (by rw [← z]; exact q))]; exact k4 y q hPy
            · rw [q, va_up_self]
          · have c' : y ≠ e := fun z => hy ⟨(nxt y).mpr (Or.inr z), by rw [z]; exact hP⟩
            rw [va_up_ne _ _ c']
            exact k5 y (fun z => hy ⟨(nxt y).mpr (Or.inl z.1), z.2⟩)
          · rw [q2 y, k7 y, nxt y]
            constructor
            · rintro ((q | q) | q)
              · exact Or.inl q
              · exact Or.inr ⟨Or.inl q.1, q.2⟩
              · exact Or.inr ⟨Or.inr q, by rw [q]; exact hP⟩
            · rintro (q | ⟨q | q, q'⟩)
              · exact Or.inl (Or.inl q)
              · exact Or.inl (Or.inr ⟨q, q'⟩)
              · exact Or.inr q
          · by_cases c' : j = e
            · rw [c', va_up_self]; omega
            · rw [va_up_ne _ _ c']; exact k8 j
          · rw [cn_up (f := fun j => decide (W j ≠ 0)) (v := e) (by simp [We]) (by simp only [va_up_self]; exact decide_eq_true (by omega)) (fun j hj => by simp only [va_up_ne _ _ hj]) hem, k9]
            omega
          · rw [k12 y, nxt y]
            constructor
            · rintro ⟨q, q'⟩
              exact ⟨Or.inl q, q'⟩
            · rintro ⟨q | q, q'⟩
              · exact ⟨q, q'⟩
              · rw [q] at q'; exact absurd hP q'
      · have q6 : x6 = nI (kp + 1) := by rw [e6]; exact nI_1 kp
        have q7 : x7 = nI (i + 1) := by rw [e7]; exact nI_1 i
        subst q6 q7
        rw [aI_upd]
        have low : ∀ a, a < kp → Q (F at_ + a) < e := fun a hka => by
          obtain ⟨⟨i', b1, b2⟩, -⟩ := (k12 (Q (F at_ + a))).mp ⟨a, hka, rfl⟩
          have := l2 i' i b1 (by omega)
          omega
        have up1 : ∀ a, a < kp → va_up Q (F at_ + kp) e (F at_ + a) = Q (F at_ + a) := fun a hka => va_up_ne _ _ (by omega)
        refine ih (i + 1) (kp + 1) c W A _ (by omega) (by omega) (by omega) (fun y hy hPy => ?_) (fun y hy => ?_) k6 (fun y => ?_) k8 k9 (fun p hp1 => ?_) (fun a b hab hb => ?_) (fun y => ?_)
        · rcases (nxt y).mp hy with q | q
          · exact k4 y q hPy
          · rw [q] at hPy; exact absurd hPy hP
        · exact k5 y (fun z => hy ⟨(nxt y).mpr (Or.inl z.1), z.2⟩)
        · rw [k7 y, nxt y]
          constructor
          · rintro (q | q)
            · exact Or.inl q
            · exact Or.inr ⟨Or.inl q.1, q.2⟩
          · rintro (q | ⟨q | q, q'⟩)
            · exact Or.inl q
            · exact Or.inr ⟨q, q'⟩
            · rw [q] at q'; exact absurd q' hP
        · rw [va_up_ne _ _ (by omega)]; exact k10 p (by omega)
        · rw [up1 a (by omega)]
          by_cases c' : b = kp
          · subst c'; rw [va_up_self]; exact low a hab
          · rw [up1 b (by omega)]; exact k11 a b hab (by omega)
        · rw [nxt y]
          constructor
          · rintro ⟨a, hka, q⟩
            by_cases c' : a = kp
            · subst c'
              rw [va_up_self] at q
              exact ⟨Or.inr q.symm, by rw [← q]; exact hP⟩
            · rw [up1 a (by omega)] at q
              obtain ⟨q1, q2⟩ := (k12 y).mp ⟨a, by omega, q⟩
              exact ⟨Or.inl q1, q2⟩
          · rintro ⟨q | q, q'⟩
            · obtain ⟨a, hka, b⟩ := (k12 y).mpr ⟨q, q'⟩
              exact ⟨a, by omega, by rw [up1 a hka]; exact b⟩
            · exact ⟨kp, by omega, by rw [va_up_self]; exact q.symm⟩
/-- spread(): what it does to the weights, the heap and the waiting arcs -/
theorem spread_s {N n m at_ w0 c0 tk : Nat} {E F W0 A0 Q0 : Nat → Nat} {vC : Nat → Int32} {Cs : Nat → Nat → Int32} {U : Nat → Int32} {P : Nat → Prop} {vsB vtN x2 : Int32} {vtK : Nat → Int32} {post : Int32 → (Nat → Int64) → (Nat → Int32) → (Nat → Int32) → (Nat → Int32) → Prop} (h : RT n m E F vC Cs) (hC : CS n Cs) (hN : 4000 < N) (ha : at_ < n) (hU : (U at_ = -1 ∧ ∀ y, F at_ ≤ y → y < F (at_ + 1) → W0 y = 0) ∨ ∃ u, U at_ = nI u ∧ WL F vC W0 Q0 at_ u) (hw0 : w0 < 2 ^ 62) (hA0 : ∀ y, hIn A0 c0 y → y < m ∧ W0 y ≠ 0) (hH : HpOk W0 A0 c0) (hW : ∀ j, W0 j < 2 ^ 63) (hcn : cn (fun j => decide (W0 j ≠ 0)) m = tk + c0)
    (hmt : ∀ t', t' < n → ∀ ps : Int32 → Prop, (P t' → ps 1) → (¬ P t' → ps 0) → w_X2_mayTurn N vsB vtN vtK x2 (nI at_) (nI t') ps)
    (hp : ∀ W' A' c' Q' u', (∀ y, (F at_ ≤ y ∧ y < F (at_ + 1) ∧ ¬ vC y ≤ 0 ∧ W0 y = 0) → P (E y % 300) → W' y = w0 + wC (vC y)) → (∀ y, ¬ ((F at_ ≤ y ∧ y < F (at_ + 1) ∧ ¬ vC y ≤ 0 ∧ W0 y = 0) ∧ P (E y % 300)) → W' y = W0 y) → HpOk W' A' c' → (∀ y, hIn A' c' y ↔ (hIn A0 c0 y ∨ ((F at_ ≤ y ∧ y < F (at_ + 1) ∧ ¬ vC y ≤ 0 ∧ W0 y = 0) ∧ P (E y % 300)))) → (∀ j, W' j < 2 ^ 63) → cn (fun j => decide (W' j ≠ 0)) m = tk + c' → WL F vC W' Q' at_ u' → (∀ p, p < F at_ ∨ F (at_ + 1) ≤ p → Q' p = Q0 p) → post (nI c') (aL W') (aI A') (aI Q') (upd U at_ (nI u'))) : w_X2_spread N vsB (aI E) vC (aI F) vtN vtK (nI c0) (aL W0) (aI A0) (aI Q0) U (nI at_) x2 (lN w0) post := by
  obtain ⟨n1, n2, n3⟩ := h.1
  have f2 := (h.2.2.1 (at_ + 1) (by omega)).1
  unfold w_X2_spread
  rw [nI_clamp (by omega)]
  refine ⟨vp_in_nI (by omega) (by omega), fun hne => ?_, fun he => ?_⟩
  · rcases hU with ⟨q, -⟩ | ⟨u, q1, q2⟩
    · exact absurd q hne
    · unfold w_X2_spread_b15
      rw [nI_clamp (by omega)]
      refine ⟨vp_in_nI (by omega) (by omega), fun x e => ?_⟩
      have q : x = nI (F at_) := e
      subst q
      have := q2.1
      exact spread_l h hC hN ha q1 q2 hw0 hA0 hmt hp N 0 0 c0 W0 A0 Q0 (by omega) (by omega) (by omega) (fun y ⟨i', a, _⟩ => by omega) (fun _ _ => rfl) hH (fun y => ⟨fun z => Or.inl z, fun z => z.elim id (fun ⟨⟨i', a, _⟩, _⟩ => by omega)⟩) hW hcn (fun _ _ => rfl) (fun a b _ z => by omega) (fun y => ⟨fun ⟨a, z, _⟩ => by omega, fun ⟨⟨i', a, _⟩, _⟩ => by omega⟩)
  · rcases hU with ⟨-, q⟩ | ⟨u, q1, q2⟩
    · refine gather_s h hN ha (fun Q' g g1 g2 g3 g4 => ?_)
      unfold w_X2_spread_b15
      rw [nI_clamp (by omega)]
      refine ⟨vp_in_nI (by omega) (by omega), fun x e => ?_⟩
      have qx : x = nI (F at_) := e
      subst qx
      have hwl : WL F vC W0 Q' at_ g := ⟨g1, g3, fun y => by
        rw [g4 y]
        exact ⟨fun ⟨a, b, c⟩ => ⟨a, b, c, q y a b⟩, fun ⟨a, b, c, _⟩ => ⟨a, b, c⟩⟩⟩
      have uu : ∀ u', upd (upd U at_ (nI g)) at_ (nI u') = upd U at_ (nI u') := fun u' => by
        funext j
        unfold upd
        split <;> rfl
      refine spread_l (U := upd U at_ (nI g)) h hC hN ha (if_pos rfl) hwl hw0 hA0 hmt (fun W' A' c' Q'' u' p1 p2 p3 p4 p5 p6 p7 p8 => ?_) N 0 0 c0 W0 A0 Q' (by omega) (by omega) (by omega) (fun y ⟨i', a, _⟩ => by omega) (fun _ _ => rfl) hH (fun y => ⟨fun z => Or.inl z, fun z => z.elim id (fun ⟨⟨i', a, _⟩, _⟩ => by omega)⟩) hW hcn (fun _ _ => rfl) (fun a b _ z => by omega) (fun y => ⟨fun ⟨a, z, _⟩ => by omega, fun ⟨⟨i', a, _⟩, _⟩ => by omega⟩)
      rw [uu]
      exact hp W' A' c' Q'' u' p1 p2 p3 p4 p5 p6 p7 (fun p hp1 => by rw [p8 p hp1]; exact g2 p hp1)
    · exact absurd (q1.symm.trans he) (ne_m1 (by have := q2.1; omega))
