/-! the class's barred turns: sorted keys -/
def kT (a b c : Nat) : Nat := 300 * (300 * a + b) + c
def TT (n q : Nat) (K : Nat → Nat) (Bar : Nat → Nat → Nat → Prop) : Prop :=
  (n ≤ 300 ∧ q ≤ 200) ∧ (∀ i j, i < j → j < q → K i < K j) ∧ (∀ j, j < q → ∃ a b c, a < n ∧ b < n ∧ c < n ∧ K j = kT a b c ∧ Bar a b c) ∧ (∀ a b c, Bar a b c → a < n ∧ b < n ∧ c < n ∧ ∃ j, j < q ∧ K j = kT a b c)
theorem kT_inj {a b c a' b' c' : Nat} (h1 : b < 300) (h2 : c < 300) (h3 : b' < 300) (h4 : c' < 300) (h : kT a b c = kT a' b' c') : a = a' ∧ b = b' ∧ c = c' := by
  unfold kT at h
  omega
theorem TT.lt {n q : Nat} {K : Nat → Nat} {Bar : Nat → Nat → Nat → Prop} (h : TT n q K Bar) {j : Nat} (hj : j < q) : K j < 27000000 := by
  obtain ⟨a, b, c, ha, hb, hc, e, -⟩ := h.2.2.1 j hj
  have := h.1.1
  unfold kT at e
  omega
/-- the place of a turn's key -/
theorem tplace_s {N n q a b c : Nat} {K : Nat → Nat} {Bar : Nat → Nat → Nat → Prop} {post : Int32 → Prop} (h : TT n q K Bar) (hN : 4000 < N) (ha : a < n) (hb : b < n) (hc : c < n) (hp : ∀ r, r ≤ q → (∀ j, j < q → (j < r ↔ K j < kT a b c)) → (Bar a b c ↔ (r < q ∧ K r = kT a b c)) → post (nI r)) : w_X4_placeIn N (aI K) 200 (0 : Int32) (nI q) (nI (kT a b c)) post := by
  have hn := h.1.1
  have hq := h.1.2
  have hk : kT a b c < 27000000 := by unfold kT; omega
  refine placeIn_s (lo := 0) (by omega) (by omega) (Nat.zero_le _) hq (fun j _ q2 => ?_) (by omega) (fun i j _ q2 q3 => Nat.le_of_lt (h.2.1 i j q2 q3)) (fun r _ r2 r3 r4 => hp r r2 (fun j hj => ⟨fun z => r3 j (Nat.zero_le _) z, fun z => ?_⟩) ⟨fun hB => ?_, fun hr => ?_⟩)
  · have := h.lt q2; omega
  · by_cases c' : j < r
    · exact c'
    · have := r4 j (by omega) hj; omega
  · obtain ⟨-, -, -, j, hj, e⟩ := h.2.2.2 a b c hB
    have c1 : ¬ j < r := fun z => by have := r3 j (Nat.zero_le _) z; omega
    have c2 := r4 r (Nat.le_refl _) (by omega)
    by_cases c3 : j = r
    · rw [← c3]; exact ⟨hj, e⟩
    · have := h.2.1 r j (by omega) hj
      omega
  · obtain ⟨a', b', c', ha', hb', hc', e, hB⟩ := h.2.2.1 r hr.1
    obtain ⟨e1, e2, e3⟩ := kT_inj (by omega) (by omega) (by omega) (by omega) (hr.2.symm.trans e)
    rw [e1, e2, e3]
    exact hB
theorem isBarred_s {N n q a b c : Nat} {K : Nat → Nat} {Bar : Nat → Nat → Nat → Prop} {post : Int32 → Prop} (h : TT n q K Bar) (hN : 4000 < N) (ha : a < n) (hb : b < n) (hc : c < n) (h1 : Bar a b c → post 1) (h0 : ¬ Bar a b c → post 0) : w_X3_isBarred N (nI q) (aI K) (nI a) (nI b) (nI c) post := by
  have hn := h.1.1
  have hq := h.1.2
  have hk : kT a b c < 27000000 := by unfold kT; omega
  unfold w_X3_isBarred w_X3_key
  rw [key3]
  refine tplace_s h hN ha hb hc (fun r r1 r2 r3 => ?_)
  refine pk_le q r (fun hr => h0 (fun z => by have := (r3.mp z).1; omega)) (fun hr => ⟨vp_in_nI (by omega) (by omega), ?_⟩)
  rw [nI_clamp (by omega)]
  have hl := h.lt hr
  have e : (aI K r = nI (300 * (300 * a + b) + c)) ↔ K r = kT a b c := nI_eq (by omega) (by unfold kT at hk; omega)
  rw [e]
  exact ⟨fun z => h0 (fun y => z (r3.mp y).2), fun z => h1 (r3.mpr ⟨hr, z⟩)⟩
def barAdd (Bar : Nat → Nat → Nat → Prop) (a b c : Nat) : Nat → Nat → Nat → Prop := fun x y z => Bar x y z ∨ (x = a ∧ y = b ∧ z = c)
def barDel (Bar : Nat → Nat → Nat → Prop) (a b c : Nat) : Nat → Nat → Nat → Prop := fun x y z => Bar x y z ∧ ¬ (x = a ∧ y = b ∧ z = c)
theorem tadd_s {N n q a b c : Nat} {K : Nat → Nat} {Bar : Nat → Nat → Nat → Prop} {post : Int32 → (Nat → Int32) → Prop} (h : TT n q K Bar) (hN : 4000 < N) (ha : a < n) (hb : b < n) (hc : c < n) (hq2 : q < 200) (hB : ¬ Bar a b c) (hp : ∀ K', TT n (q + 1) K' (barAdd Bar a b c) → post (nI (q + 1)) (aI K')) : w_X3_add N (nI q) (aI K) (nI a) (nI b) (nI c) post := by
  have hn := h.1.1
  have hk : kT a b c < 27000000 := by unfold kT; omega
  unfold w_X3_add w_X3_key
  rw [key3]
  refine pk_lt q 200 (fun _ => ?_) (fun z => by omega)
  refine tplace_s h hN ha hb hc (fun r r1 r2 r3 => ?_)
  refine insert_s r1 hq2 (by omega) ?_
  have e1 : nI q + (1 : Int32) = nI (q + 1) := nI_1 q
  rw [ins_aI, e1]
  have nk : ∀ j, j < q → K j ≠ kT a b c := fun j hj e => by
    obtain ⟨a', b', c', ha', hb', hc', e', hB'⟩ := h.2.2.1 j hj
    obtain ⟨e1, e2, e3⟩ := kT_inj (by omega) (by omega) (by omega) (by omega) (e.symm.trans e')
    rw [← e1, ← e2, ← e3] at hB'
    exact hB hB'
  have insL : ∀ j, j < r → ins K r q (kT a b c) j = K j := fun j hj => by unfold ins; rw [if_pos hj]
  have insM : ins K r q (kT a b c) r = kT a b c := by unfold ins; rw [if_neg (by omega), if_pos rfl]
  have insR : ∀ j, r < j → j ≤ q → ins K r q (kT a b c) j = K (j - 1) := fun j hj hj2 => by unfold ins; rw [if_neg (by omega), if_neg (by omega), if_pos hj2]
  refine hp _ ⟨⟨hn, by omega⟩, fun i j hij hj => ?_, fun j hj => ?_, fun x y z hz => ?_⟩
  · show ins K r q (kT a b c) i < ins K r q (kT a b c) j
    rcases Nat.lt_trichotomy i r with q1 | q1 | q1
    · rw [insL i q1]
      rcases Nat.lt_trichotomy j r with q' | q' | q'
      · rw [insL j q']; exact h.2.1 i j hij (by omega)
      · rw [q', insM]; exact (r2 i (by omega)).mp q1
      · rw [insR j q' (by omega)]
        exact h.2.1 i (j - 1) (by omega) (by omega)
    · rw [q1, insM, insR j (by omega) (by omega)]
      have c1 : ¬ K (j - 1) < kT a b c := fun z => by have := (r2 (j - 1) (by omega)).mpr z; omega
      have c2 := nk (j - 1) (by omega)
      omega
    · rw [insR i q1 (by omega), insR j (by omega) (by omega)]
      exact h.2.1 (i - 1) (j - 1) (by omega) (by omega)
  · show ∃ a' b' c', a' < n ∧ b' < n ∧ c' < n ∧ ins K r q (kT a b c) j = kT a' b' c' ∧ barAdd Bar a b c a' b' c'
    rcases Nat.lt_trichotomy j r with q1 | q1 | q1
    · rw [insL j q1]
      obtain ⟨a', b', c', g1, g2, g3, g4, g5⟩ := h.2.2.1 j (by omega)
      exact ⟨a', b', c', g1, g2, g3, g4, Or.inl g5⟩
    · rw [q1, insM]
      exact ⟨a, b, c, ha, hb, hc, rfl, Or.inr ⟨rfl, rfl, rfl⟩⟩
    · rw [insR j q1 (by omega)]
      obtain ⟨a', b', c', g1, g2, g3, g4, g5⟩ := h.2.2.1 (j - 1) (by omega)
      exact ⟨a', b', c', g1, g2, g3, g4, Or.inl g5⟩
  · rcases hz with hz | ⟨e1, e2, e3⟩
    · obtain ⟨g1, g2, g3, j, hj, e⟩ := h.2.2.2 x y z hz
      refine ⟨g1, g2, g3, ?_⟩
      by_cases c1 : j < r
      · exact ⟨j, by omega, (insL j c1).trans e⟩
      · exact ⟨j + 1, by omega, (insR (j + 1) (by omega) (by omega)).trans e⟩
    · rw [e1, e2, e3]
      exact ⟨ha, hb, hc, r, by omega, insM⟩
theorem del_eq (A : Nat → Int32) {pl cnt : Nat} (h : pl < cnt) : va_cpy A A (pl + 1) pl (cnt - pl - 1) = del A pl cnt := by
  funext j
  unfold va_cpy del
  by_cases h1 : pl ≤ j ∧ j + 1 < cnt
  · rw [if_pos h1, if_pos (by omega)]
    exact congrArg A (by omega)
  · rw [if_neg h1, if_neg (by omega)]
theorem tremove_s {N n q a b c : Nat} {K : Nat → Nat} {Bar : Nat → Nat → Nat → Prop} {post : Int32 → (Nat → Int32) → Prop} (h : TT n q K Bar) (hN : 4000 < N) (ha : a < n) (hb : b < n) (hc : c < n) (hB : Bar a b c) (hp : ∀ K', 0 < q → TT n (q - 1) K' (barDel Bar a b c) → post (nI (q - 1)) (aI K')) : w_X3_remove N (nI q) (aI K) (nI a) (nI b) (nI c) post := by
  have hn := h.1.1
  have hq := h.1.2
  have hk : kT a b c < 27000000 := by unfold kT; omega
  unfold w_X3_remove w_X3_key
  rw [key3]
  refine tplace_s h hN ha hb hc (fun r r1 r2 r3 => ?_)
  obtain ⟨hr, er⟩ := r3.mp hB
  refine pk_le q r (fun z => by omega) (fun _ => ⟨vp_in_nI (by omega) (by omega), ?_⟩)
  have e1 : nI q - (1 : Int32) = nI (q - 1) := pk_sub (a := q) (b := 1) (by omega)
  have e2 : nI q - nI r - (1 : Int32) = nI (q - r - 1) := by rw [pk_sub r1]; exact pk_sub (a := q - r) (b := 1) (by omega)
  have e3 : nI r + (1 : Int32) = nI (r + 1) := nI_1 r
  rw [e1, e2, e3, nI_clamp (by omega), nI_clamp (by omega), nI_clamp (by omega)]
  have e : (aI K r = nI (300 * (300 * a + b) + c)) ↔ K r = kT a b c := nI_eq (by have := h.lt hr; omega) (by unfold kT at hk; omega)
  rw [e]
  refine ⟨fun _ => ⟨⟨⟨nI_pos (by omega), nI_pos (by omega), nI_pos (by omega)⟩, ?_, ?_⟩, ?_⟩, fun z => absurd er z⟩
  · rw [nI_clamp (by omega), nI_clamp (by omega)]; omega
  · rw [nI_clamp (by omega), nI_clamp (by omega)]; omega
  · rw [del_eq (aI K) hr, del_aI]
    have dL : ∀ j, j < r → del K r q j = K j := fun j hj => by unfold del; rw [if_neg (by omega)]
    have dR : ∀ j, r ≤ j → j + 1 < q → del K r q j = K (j + 1) := fun j h1 h2 => by unfold del; rw [if_pos ⟨h1, h2⟩]
    refine hp _ (by omega) ⟨⟨hn, by omega⟩, fun i j hij hj => ?_, fun j hj => ?_, fun x y z hz => ?_⟩
    · show del K r q i < del K r q j
      by_cases c1 : i < r
      · rw [dL i c1]
        by_cases c2 : j < r
        · rw [dL j c2]; exact h.2.1 i j hij (by omega)
        · rw [dR j (by omega) (by omega)]; exact h.2.1 i (j + 1) (by omega) (by omega)
      · rw [dR i (by omega) (by omega), dR j (by omega) (by omega)]
        exact h.2.1 (i + 1) (j + 1) (by omega) (by omega)
    · show ∃ a' b' c', a' < n ∧ b' < n ∧ c' < n ∧ del K r q j = kT a' b' c' ∧ barDel Bar a b c a' b' c'
      have fin : ∀ j', j' < q → j' ≠ r → ∃ a' b' c', a' < n ∧ b' < n ∧ c' < n ∧ K j' = kT a' b' c' ∧ barDel Bar a b c a' b' c' := by
        intro j' h1 h2
        obtain ⟨a', b', c', g1, g2, g3, g4, g5⟩ := h.2.2.1 j' h1
        refine ⟨a', b', c', g1, g2, g3, g4, g5, fun z => h2 ?_⟩
        have e5 : K j' = K r := by rw [g4, er, z.1, z.2.1, z.2.2]
        rcases Nat.lt_trichotomy j' r with w | w | w
        · have := h.2.1 j' r w hr; omega
        · exact w
        · have := h.2.1 r j' w h1; omega
      by_cases c1 : j < r
      · rw [dL j c1]; exact fin j (by omega) (by omega)
      · rw [dR j (by omega) (by omega)]; exact fin (j + 1) (by omega) (by omega)
    · obtain ⟨hz1, hz2⟩ := hz
      obtain ⟨g1, g2, g3, j, hj, e⟩ := h.2.2.2 x y z hz1
      refine ⟨g1, g2, g3, ?_⟩
      have hjr : j ≠ r := fun w => hz2 (by
        rw [w, er] at e
        obtain ⟨q1, q2, q3⟩ := kT_inj (by omega) (by omega) (by omega) (by omega) e
        exact ⟨q1.symm, q2.symm, q3.symm⟩)
      by_cases c1 : j < r
      · exact ⟨j, by omega, (dL j c1).trans e⟩
      · exact ⟨j - 1, by omega, (dR (j - 1) (by omega) (by omega)).trans (by rw [show j - 1 + 1 = j by omega]; exact e)⟩
/-- bar(), abstractly: the answer, the count, the turns -/
noncomputable def bF (n q : Nat) (Bar : Nat → Nat → Nat → Prop) (x1 x2 x3 x4 : Int32) : Int32 × Nat × (Nat → Nat → Nat → Prop) :=
  @ite _ (isN n x1 ∧ isN n x2 ∧ isN n x3 ∧ x1 ≠ x2 ∧ x2 ≠ x3) (Classical.propDecidable _)
    (@ite _ (Bar x1.toNatClampNeg x2.toNatClampNeg x3.toNatClampNeg) (Classical.propDecidable _)
      (if x4 = 0 then (nI (q - 1), q - 1, barDel Bar x1.toNatClampNeg x2.toNatClampNeg x3.toNatClampNeg) else (nI q, q, Bar))
      (if x4 = 0 then (nI q, q, Bar) else if q < 200 then (nI (q + 1), q + 1, barAdd Bar x1.toNatClampNeg x2.toNatClampNeg x3.toNatClampNeg) else (-12, q, Bar)))
    (-14, q, Bar)
theorem bF_bad {n q : Nat} {Bar : Nat → Nat → Nat → Prop} {x1 x2 x3 x4 : Int32} (h : ¬ (isN n x1 ∧ isN n x2 ∧ isN n x3 ∧ x1 ≠ x2 ∧ x2 ≠ x3)) : bF n q Bar x1 x2 x3 x4 = (-14, q, Bar) := if_neg h
theorem bF_in {n q a b c : Nat} {Bar : Nat → Nat → Nat → Prop} {x4 : Int32} (hn : n ≤ 300) (ha : a < n) (hb : b < n) (hc : c < n) (h1 : a ≠ b) (h2 : b ≠ c) : bF n q Bar (nI a) (nI b) (nI c) x4 = @ite _ (Bar a b c) (Classical.propDecidable _)
      (if x4 = 0 then (nI (q - 1), q - 1, barDel Bar a b c) else (nI q, q, Bar))
      (if x4 = 0 then (nI q, q, Bar) else if q < 200 then (nI (q + 1), q + 1, barAdd Bar a b c) else (-12, q, Bar)) := by
  unfold bF
  rw [if_pos ⟨⟨a, ha, rfl⟩, ⟨b, hb, rfl⟩, ⟨c, hc, rfl⟩, fun z => h1 (nI_inj (n := n) (by omega) ha hb z), fun z => h2 (nI_inj (n := n) (by omega) hb hc z)⟩, nI_clamp (by omega), nI_clamp (by omega), nI_clamp (by omega)]
theorem bar_X {N n q : Nat} {K : Nat → Nat} {Bar : Nat → Nat → Nat → Prop} {x1 x2 x3 x4 : Int32} {post : Int32 → Int32 → (Nat → Int32) → Prop} (h : TT n q K Bar) (hN : 4000 < N) (h4 : x4 = 0 ∨ x4 = 1) (hp : ∀ K', TT n (bF n q Bar x1 x2 x3 x4).2.1 K' (bF n q Bar x1 x2 x3 x4).2.2 → post (bF n q Bar x1 x2 x3 x4).1 (nI (bF n q Bar x1 x2 x3 x4).2.1) (aI K')) : w_X4_bar N (nI n) (nI q) (aI K) x1 x2 x3 x4 post := by
  have hn := h.1.1
  have hq := h.1.2
  unfold w_X4_bar
  have bad : ¬ (isN n x1 ∧ isN n x2 ∧ isN n x3 ∧ x1 ≠ x2 ∧ x2 ≠ x3) → post (-14) (nI q) (aI K) := fun hb => by
    rw [bF_bad hb] at hp
    exact hp K h
  refine hasNode_s (by omega) (fun a ha ea => ⟨fun z => absurd z (by decide), fun _ => ?_⟩) (fun hz => ⟨fun _ => bad (fun z => hz z.1), fun z => absurd rfl z⟩)
  refine hasNode_s (by omega) (fun b hb eb => ⟨fun z => absurd z (by decide), fun _ => ?_⟩) (fun hz => ⟨fun _ => bad (fun z => hz z.2.1), fun z => absurd rfl z⟩)
  refine hasNode_s (by omega) (fun c hc ec => ⟨fun z => absurd z (by decide), fun _ => ?_⟩) (fun hz => ⟨fun _ => bad (fun z => hz z.2.2.1), fun z => absurd rfl z⟩)
  refine ⟨fun he => bad (fun z => z.2.2.2.1 he), fun hne => ⟨fun hne2 => ?_, fun he => bad (fun z => z.2.2.2.2 he)⟩⟩
  subst ea eb ec
  have hab : a ≠ b := fun z => hne (by rw [z])
  have hbc : b ≠ c := fun z => hne2 (by rw [z])
  rw [bF_in hn ha hb hc hab hbc] at hp
  refine isBarred_s h hN ha hb hc (fun hB => ?_) (fun hB => ?_)
  · rw [if_pos hB] at hp
    rcases h4 with h4 | h4
    · subst h4
      rw [if_pos rfl] at hp
      exact ⟨fun _ => ⟨fun z => absurd rfl z, fun _ => tremove_s h hN ha hb hc hB (fun K' _ hT => hp K' hT)⟩, fun z => absurd z (by decide)⟩
    · subst h4
      rw [if_neg (by decide)] at hp
      exact ⟨fun z => absurd rfl z, fun _ => hp K h⟩
  · rw [if_neg hB] at hp
    rcases h4 with h4 | h4
    · subst h4
      rw [if_pos rfl] at hp
      exact ⟨fun z => absurd rfl z, fun _ => hp K h⟩
    · subst h4
      rw [if_neg (by decide)] at hp
      refine ⟨fun _ => ⟨fun _ => pk_lt q 200 (fun hq2 => ?_) (fun hq2 => ?_), fun z => absurd z (by decide)⟩, fun z => absurd z (by decide)⟩
      · rw [if_pos hq2] at hp
        exact tadd_s h hN ha hb hc hq2 hB hp
      · rw [if_neg (by omega)] at hp
        exact hp K h
/-! size() -/
theorem reset_l {N : Nat} {vN vA : Int32} {post : Int32 → Int32 → (Nat → Int32) → Prop} : ∀ (k v : Nat) (Fc : Nat → Nat), v ≤ 301 → 301 - v < k → post vN vA (aI (fun u => if v ≤ u ∧ u ≤ 300 then 0 else Fc u)) → w_X1_reset_b12 N post k vN vA (aI Fc) (nI v) := by
  intro k
  induction k with
  | zero => intro v Fc _ h; omega
  | succ k ih =>
    intro v Fc hv hk hp
    show w_X1_reset_b12_B N post _ vN vA (aI Fc) (nI v)
    unfold w_X1_reset_b12_B
    refine pk_le 301 v (fun h => ?_) (fun h => ⟨vp_in_nI (by omega) (by omega), fun x hx => ?_⟩)
    · have e : (fun u => if v ≤ u ∧ u ≤ 300 then 0 else Fc u) = Fc := funext (fun u => if_neg (by omega))
      rw [e] at hp
      exact hp
    · have e : x = nI (v + 1) := by rw [hx]; exact nI_1 v
      subst e
      rw [nI_clamp (by omega)]
      have e1 : upd (aI Fc) v (0 : Int32) = aI (va_up Fc v 0) := aI_upd Fc v 0
      rw [e1]
      refine ih (v + 1) _ (by omega) (by omega) ?_
      have e2 : (fun u => if v + 1 ≤ u ∧ u ≤ 300 then 0 else va_up Fc v 0 u) = (fun u => if v ≤ u ∧ u ≤ 300 then 0 else Fc u) := by
        funext u
        by_cases q : u = v
        · subst q
          rw [va_up_self, if_neg (by omega), if_pos (by omega)]
        · rw [va_up_ne _ _ q]
          by_cases q2 : v ≤ u ∧ u ≤ 300
          · rw [if_pos q2, if_pos (by omega)]
          · rw [if_neg q2, if_neg (by omega)]
      rw [e2]
      exact hp
theorem RT_empty {n : Nat} {E F : Nat → Nat} {vC : Nat → Int32} (h1 : 1 ≤ n) (h2 : n ≤ 300) (hF : ∀ v, v ≤ 300 → F v = 0) : RT n 0 E F vC (fun _ _ => 0) :=
  ⟨⟨h1, h2, by omega⟩, fun i j _ h => by omega, fun v hv => ⟨by rw [hF v hv]; omega, fun j hj => by omega⟩, fun j hj => by omega, fun a b _ _ hz => absurd rfl hz⟩
theorem TT_empty {n : Nat} {K : Nat → Nat} (h2 : n ≤ 300) : TT n 0 K (fun _ _ _ => False) :=
  ⟨⟨h2, by omega⟩, fun i j _ h => by omega, fun j hj => by omega, fun a b c h => h.elim⟩
theorem size_X {N : Nat} {vL vN vA vT x1 : Int32} {F : Nat → Nat} {post : Int32 → Int32 → Int32 → Int32 → (Nat → Int32) → Int32 → Prop} (hN : 4000 < N) (h0 : (x1 < 1 ∨ ¬ x1 ≤ 300) → post 0 vL vN vA (aI F) vT) (h1 : ∀ n F', 1 ≤ n → n ≤ 300 → x1 = nI n → (∀ v, v ≤ 300 → F' v = 0) → post 1 0 (nI n) 0 (aI F') 0) : w_X4_size N vL vN vA (aI F) vT x1 post := by
  unfold w_X4_size
  refine ⟨fun z => h0 (Or.inl z), fun z1 => ⟨fun z2 => ?_, fun z => h0 (Or.inr z)⟩⟩
  have hx0 : ¬ x1 < 0 := fun z => z1 (Int32.lt_trans z (by decide))
  obtain ⟨n, hn, e⟩ := nI_of2 (M := 300) (n := 300) (by decide) hx0 z2
  have hn1 : 1 ≤ n := by
    by_cases q : 1 ≤ n
    · exact q
    · have : n = 0 := by omega
      subst this
      exact absurd (by rw [e]; decide) z1
  subst e
  unfold w_X1_reset
  refine reset_l N 0 F (by omega) (by omega) ?_
  unfold w_X3_reset
  exact h1 n _ hn1 hn rfl (fun v hv => if_pos ⟨Nat.zero_le _, hv⟩)
