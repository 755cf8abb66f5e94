/-! pure: heaps -/
def hp (κ A : Nat → Nat) (n : Nat) : Prop := ∀ i, 0 < i → i < n → κ (A ((i - 1) / 2)) ≤ κ (A i)
def hIn (A : Nat → Nat) (n y : Nat) : Prop := ∃ i, i < n ∧ A i = y
def hInj (A : Nat → Nat) (n : Nat) : Prop := ∀ i j, i < n → j < n → A i = A j → i = j
theorem hp_min {κ A : Nat → Nat} {n : Nat} (h : hp κ A n) : ∀ i, i < n → κ (A 0) ≤ κ (A i) := by
  intro i
  induction i using Nat.strongRecOn with
  | ind i ih =>
    intro hi
    by_cases h0 : i = 0
    · subst h0; exact Nat.le_refl _
    · exact Nat.le_trans (ih ((i - 1) / 2) (by omega) (by omega)) (h i (by omega) hi)
theorem hSwap_in {A : Nat → Nat} {n p q x y : Nat} (hp : p < n) (hq : q < n) (hne : q ≠ p) : hIn (va_up (va_up A p (A q)) q x) n y ↔ hIn (va_up A p x) n y := by
  constructor
  · rintro ⟨i, hi, e⟩
    by_cases h1 : i = q
    · subst h1
      rw [va_up_self] at e
      exact ⟨p, hp, by rw [va_up_self]; exact e⟩
    · rw [va_up_ne _ _ h1] at e
      by_cases h2 : i = p
      · subst h2
        rw [va_up_self] at e
        exact ⟨q, hq, by rw [va_up_ne _ _ hne]; exact e⟩
      · rw [va_up_ne _ _ h2] at e
        exact ⟨i, hi, by rw [va_up_ne _ _ h2]; exact e⟩
  · rintro ⟨i, hi, e⟩
    by_cases h2 : i = p
    · subst h2
      rw [va_up_self] at e
      exact ⟨q, hq, by rw [va_up_self]; exact e⟩
    · rw [va_up_ne _ _ h2] at e
      by_cases h1 : i = q
      · subst h1
        exact ⟨p, hp, by rw [va_up_ne _ _ (Ne.symm hne), va_up_self]; exact e⟩
      · exact ⟨i, hi, by rw [va_up_ne _ _ h1, va_up_ne _ _ h2]; exact e⟩
theorem hSwap_inj {A : Nat → Nat} {n p q x : Nat} (hp : p < n) (hq : q < n) (hne : q ≠ p) (h : hInj (va_up A p x) n) : hInj (va_up (va_up A p (A q)) q x) n := by
  have key : ∀ i, i < n → ∃ i', i' < n ∧ va_up (va_up A p (A q)) q x i = va_up A p x i' ∧ ((i = q ∧ i' = p) ∨ (i = p ∧ i' = q) ∨ (i ≠ p ∧ i ≠ q ∧ i' = i)) := by
    intro i hi
    by_cases h1 : i = q
    · subst h1
      exact ⟨p, hp, by rw [va_up_self, va_up_self], Or.inl ⟨rfl, rfl⟩⟩
    · by_cases h2 : i = p
      · subst h2
        exact ⟨q, hq, by rw [va_up_ne _ _ h1, va_up_self, va_up_ne _ _ hne], Or.inr (Or.inl ⟨rfl, rfl⟩)⟩
      · exact ⟨i, hi, by rw [va_up_ne _ _ h1, va_up_ne _ _ h2, va_up_ne _ _ h2], Or.inr (Or.inr ⟨h2, h1, rfl⟩)⟩
  intro i j hi hj e
  obtain ⟨i', hi', ei, ci⟩ := key i hi
  obtain ⟨j', hj', ej, cj⟩ := key j hj
  have := h i' j' hi' hj' (by rw [← ei, ← ej]; exact e)
  rcases ci with ⟨a, b⟩ | ⟨a, b⟩ | ⟨a, b, c⟩ <;> rcases cj with ⟨a', b'⟩ | ⟨a', b'⟩ | ⟨a', b', c'⟩ <;> omega
/-- going up: a hole at p, in which x is to stand -/
def hUp (κ A : Nat → Nat) (n p x : Nat) : Prop := p < n ∧ (∀ i, 0 < i → i < n → i ≠ p → (i - 1) / 2 ≠ p → κ (A ((i - 1) / 2)) ≤ κ (A i)) ∧ (∀ i, 0 < i → i < n → (i - 1) / 2 = p → κ x ≤ κ (A i)) ∧ (0 < p → ∀ i, 0 < i → i < n → (i - 1) / 2 = p → κ (A ((p - 1) / 2)) ≤ κ (A i))
theorem hUp_start {κ A : Nat → Nat} {n x : Nat} (h : hp κ A n) : hUp κ A (n + 1) n x :=
  ⟨Nat.lt_succ_self n, fun i h0 h1 h2 _ => h i h0 (by omega), fun i h0 h1 h2 => by omega, fun _ i h0 h1 h2 => by omega⟩
theorem hUp_step {κ A : Nat → Nat} {n p x : Nat} (h : hUp κ A n p x) (h0 : 0 < p) (hlt : κ x < κ (A ((p - 1) / 2))) : hUp κ (va_up A p (A ((p - 1) / 2))) n ((p - 1) / 2) x := by
  obtain ⟨u1, u2, u3, u4⟩ := h
  refine ⟨by omega, fun i a b c d => ?_, fun i a b c => ?_, fun hpp i a b c => ?_⟩
  · have hip : i ≠ p := fun e => d (by rw [e])
    rw [va_up_ne _ _ hip]
    by_cases e : (i - 1) / 2 = p
    · rw [e, va_up_self]; exact u4 h0 i a b e
    · rw [va_up_ne _ _ e]; exact u2 i a b hip e
  · by_cases e : i = p
    · subst e; rw [va_up_self]; exact Nat.le_of_lt hlt
    · rw [va_up_ne _ _ e]
      have := u2 i a b e (by omega)
      rw [c] at this
      exact Nat.le_trans (Nat.le_of_lt hlt) this
  · have e1 : ((p - 1) / 2 - 1) / 2 ≠ p := by omega
    rw [va_up_ne _ _ e1]
    have h2 := u2 ((p - 1) / 2) hpp (by omega) (by omega) (by omega)
    by_cases e : i = p
    · subst e; rw [va_up_self]; exact h2
    · rw [va_up_ne _ _ e]
      have h3 := u2 i a b e (by omega)
      rw [c] at h3
      exact Nat.le_trans h2 h3
theorem hUp_end {κ A : Nat → Nat} {n p x : Nat} (h : hUp κ A n p x) (he : p = 0 ∨ κ (A ((p - 1) / 2)) ≤ κ x) : hp κ (va_up A p x) n := by
  obtain ⟨u1, u2, u3, u4⟩ := h
  intro i a b
  by_cases e : i = p
  · subst e
    rw [va_up_self, va_up_ne _ _ (show (i - 1) / 2 ≠ i by omega)]
    rcases he with he | he
    · omega
    · exact he
  · rw [va_up_ne _ _ e]
    by_cases e2 : (i - 1) / 2 = p
    · rw [e2, va_up_self]; exact u3 i a b e2
    · rw [va_up_ne _ _ e2]; exact u2 i a b e e2
/-- going down: a hole at p -/
def hDn (κ A : Nat → Nat) (n p x : Nat) : Prop := (∀ i, 0 < i → i < n → i ≠ p → (i - 1) / 2 ≠ p → κ (A ((i - 1) / 2)) ≤ κ (A i)) ∧ (0 < p → ∀ i, 0 < i → i < n → (i - 1) / 2 = p → κ (A ((p - 1) / 2)) ≤ κ (A i)) ∧ (0 < p → κ (A ((p - 1) / 2)) ≤ κ x)
theorem hDn_start {κ A : Nat → Nat} {n x : Nat} (h : hp κ A (n + 1)) : hDn κ A n 0 x :=
  ⟨fun i h0 h1 _ _ => h i h0 (by omega), fun h => by omega, fun h => by omega⟩
theorem hDn_step {κ A : Nat → Nat} {n p x c : Nat} (h : hDn κ A n p x) (hc0 : 0 < c) (hc : c < n) (hcp : (c - 1) / 2 = p) (hmin : ∀ i, 0 < i → i < n → (i - 1) / 2 = p → κ (A c) ≤ κ (A i)) (hlt : κ (A c) < κ x) : hDn κ (va_up A p (A c)) n c x := by
  obtain ⟨d2, d3, d4⟩ := h
  refine ⟨fun i a b e1 e2 => ?_, fun _ i a b e => ?_, fun _ => ?_⟩
  · by_cases hip : i = p
    · subst hip
      rw [va_up_self, va_up_ne _ _ (show (i - 1) / 2 ≠ i by omega)]
      exact d3 a c hc0 hc hcp
    · rw [va_up_ne _ _ hip]
      by_cases e : (i - 1) / 2 = p
      · rw [e, va_up_self]; exact hmin i a b e
      · rw [va_up_ne _ _ e]; exact d2 i a b hip e
  · rw [hcp, va_up_self]
    have hip : i ≠ p := by omega
    rw [va_up_ne _ _ hip]
    have := d2 i a b hip (by omega)
    rw [e] at this
    exact this
  · rw [hcp, va_up_self]; exact Nat.le_of_lt hlt
theorem hDn_end {κ A : Nat → Nat} {n p x : Nat} (h : hDn κ A n p x) (he : ∀ i, 0 < i → i < n → (i - 1) / 2 = p → κ x ≤ κ (A i)) : hp κ (va_up A p x) n := by
  obtain ⟨d2, d3, d4⟩ := h
  intro i a b
  by_cases e : i = p
  · subst e
    rw [va_up_self, va_up_ne _ _ (show (i - 1) / 2 ≠ i by omega)]
    exact d4 a
  · rw [va_up_ne _ _ e]
    by_cases e2 : (i - 1) / 2 = p
    · rw [e2, va_up_self]; exact he i a b e2
    · rw [va_up_ne _ _ e2]; exact d2 i a b e e2
/-- the last one put to the first place -/
theorem hTake_in {A : Nat → Nat} {n y : Nat} (hi : hInj A (n + 1)) : hIn (va_up A 0 (A n)) n y ↔ (hIn A (n + 1) y ∧ y ≠ A 0) := by
  constructor
  · rintro ⟨i, h, e⟩
    by_cases h0 : i = 0
    · subst h0
      rw [va_up_self] at e
      refine ⟨⟨n, by omega, e⟩, fun z => ?_⟩
      have := hi n 0 (by omega) (by omega) (by rw [e]; exact z)
      omega
    · rw [va_up_ne _ _ h0] at e
      refine ⟨⟨i, by omega, e⟩, fun z => h0 (hi i 0 (by omega) (by omega) (by rw [e]; exact z))⟩
  · rintro ⟨⟨i, h, e⟩, hne⟩
    have h0 : i ≠ 0 := fun z => hne (by rw [← e, z])
    by_cases hn : i = n
    · subst hn
      exact ⟨0, by omega, by rw [va_up_self]; exact e⟩
    · exact ⟨i, by omega, by rw [va_up_ne _ _ h0]; exact e⟩
theorem hTake_inj {A : Nat → Nat} {n : Nat} (hi : hInj A (n + 1)) : hInj (va_up A 0 (A n)) n := by
  intro i j a b e
  by_cases h0 : i = 0
  · by_cases h1 : j = 0
    · omega
    · subst h0
      rw [va_up_self, va_up_ne _ _ h1] at e
      have := hi n j (by omega) (by omega) e
      omega
  · by_cases h1 : j = 0
    · subst h1
      rw [va_up_self, va_up_ne _ _ h0] at e
      have := hi i n (by omega) (by omega) e
      omega
    · rw [va_up_ne _ _ h0, va_up_ne _ _ h1] at e
      exact hi i j (by omega) (by omega) e
theorem hAdd_in {A : Nat → Nat} {n x y : Nat} : hIn (va_up A n x) (n + 1) y ↔ (hIn A n y ∨ y = x) := by
  constructor
  · rintro ⟨i, h, e⟩
    by_cases hn : i = n
    · subst hn; rw [va_up_self] at e; exact Or.inr e.symm
    · rw [va_up_ne _ _ hn] at e; exact Or.inl ⟨i, by omega, e⟩
  · rintro (⟨i, h, e⟩ | e)
    · exact ⟨i, by omega, by rw [va_up_ne _ _ (show i ≠ n by omega)]; exact e⟩
    · exact ⟨n, by omega, by rw [va_up_self]; exact e.symm⟩
theorem hAdd_inj {A : Nat → Nat} {n x : Nat} (hi : hInj A n) (hx : ¬ hIn A n x) : hInj (va_up A n x) (n + 1) := by
  intro i j a b e
  by_cases h0 : i = n
  · by_cases h1 : j = n
    · omega
    · subst h0
      rw [va_up_self, va_up_ne _ _ h1] at e
      exact absurd ⟨j, by omega, e.symm⟩ hx
  · by_cases h1 : j = n
    · subst h1
      rw [va_up_self, va_up_ne _ _ h0] at e
      exact absurd ⟨i, by omega, e⟩ hx
    · rw [va_up_ne _ _ h0, va_up_ne _ _ h1] at e
      exact hi i j (by omega) (by omega) e
/-! pure: counting -/
def cn (f : Nat → Bool) : Nat → Nat
  | 0 => 0
  | n + 1 => cn f n + (if f n = true then 1 else 0)
theorem cn_le (f : Nat → Bool) : ∀ n, cn f n ≤ n
  | 0 => Nat.le_refl 0
  | n + 1 => by
    have := cn_le f n
    unfold cn
    split <;> omega
theorem cn_congr {f g : Nat → Bool} : ∀ {n : Nat}, (∀ i, i < n → f i = g i) → cn f n = cn g n
  | 0, _ => rfl
  | n + 1, h => by
    unfold cn
    rw [cn_congr (n := n) (fun i hi => h i (by omega)), h n (by omega)]
theorem cn_up {f g : Nat → Bool} {v : Nat} (hf : f v = false) (hg : g v = true) (ho : ∀ i, i ≠ v → g i = f i) : ∀ {n : Nat}, v < n → cn g n = cn f n + 1
  | 0, h => by omega
  | n + 1, h => by
    unfold cn
    by_cases e : v = n
    · subst e
      rw [cn_congr (f := g) (g := f) (fun i hi => ho i (by omega)), hf, hg]
      simp
    · rw [cn_up hf hg ho (n := n) (by omega), ho n (fun z => e z.symm)]
      omega
theorem cn_lt {f : Nat → Bool} {v : Nat} (hf : f v = false) : ∀ {n : Nat}, v < n → cn f n < n
  | 0, h => by omega
  | n + 1, h => by
    unfold cn
    by_cases e : v = n
    · subst e
      have := cn_le f v
      rw [hf]
      simp
      omega
    · have := cn_lt hf (n := n) (by omega)
      split <;> omega
theorem cn_zero {f : Nat → Bool} : ∀ {n : Nat}, (∀ i, i < n → f i = false) → cn f n = 0
  | 0, _ => rfl
  | n + 1, h => by
    unfold cn
    rw [cn_zero (n := n) (fun i hi => h i (by omega)), h n (by omega)]
    simp
/-! pure: the search, arc by arc -/
def DInv (s : Nat) (org tgt : Nat → Nat) (ok : Nat → Prop) (wt : Nat → Nat) (B : Nat → Nat → Nat → Prop) (D : Nat → Nat) (dn : Nat → Prop) (M : Nat) : Prop :=
  (∀ e, D e ≠ 0 → ok e ∧ ((org e = s ∧ D e = wt e) ∨ (org e ≠ s ∧ ∃ f, dn f ∧ tgt f = org e ∧ ¬ B (org f) (org e) (tgt e) ∧ D e = wt e + D f))) ∧
  (∀ e, ok e → org e = s → D e = wt e) ∧
  (∀ f e, dn f → ok e → org e = tgt f → org e ≠ s → ¬ B (org f) (org e) (tgt e) → D e ≠ 0 ∧ D e ≤ wt e + D f) ∧
  (∀ e, dn e → D e ≠ 0 ∧ D e ≤ M) ∧
  (∀ e, D e ≠ 0 → ¬ dn e → M ≤ D e)
theorem DInv.start {s : Nat} {org tgt : Nat → Nat} {ok : Nat → Prop} {wt : Nat → Nat} {B : Nat → Nat → Nat → Prop} {D : Nat → Nat} (h1 : ∀ e, D e ≠ 0 → ok e ∧ org e = s ∧ D e = wt e) (h2 : ∀ e, ok e → org e = s → D e = wt e) : DInv s org tgt ok wt B D (fun _ => False) 0 :=
  ⟨fun e he => ⟨(h1 e he).1, Or.inl (h1 e he).2⟩, h2, fun f e h => h.elim, fun e h => h.elim, fun e _ _ => Nat.zero_le _⟩
theorem DInv.step {s : Nat} {org tgt : Nat → Nat} {ok : Nat → Prop} {wt : Nat → Nat} {B : Nat → Nat → Nat → Prop} {D D' : Nat → Nat} {dn : Nat → Prop} {M e0 : Nat} (h : DInv s org tgt ok wt B D dn M) (hwt : ∀ e, ok e → 0 < wt e) (h0 : D e0 ≠ 0) (hnd : ¬ dn e0) (hmin : ∀ e, D e ≠ 0 → ¬ dn e → D e0 ≤ D e)
    (hY : ∀ e, ok e → org e = tgt e0 → D e = 0 → ¬ B (org e0) (org e) (tgt e) → D' e = wt e + D e0) (hN : ∀ e, ¬ (ok e ∧ org e = tgt e0 ∧ D e = 0 ∧ ¬ B (org e0) (org e) (tgt e)) → D' e = D e) : DInv s org tgt ok wt B D' (fun e => dn e ∨ e = e0) (D e0) := by
  obtain ⟨i1, i2, i3, i4, i5⟩ := h
  have keep : ∀ e, D e ≠ 0 → D' e = D e := fun e he => hN e (fun z => he z.2.2.1)
  have hM : M ≤ D e0 := i5 e0 h0 hnd
  refine ⟨fun e he => ?_, fun e a b => ?_, fun f e a b c d g => ?_, fun e a => ?_, fun e a b => ?_⟩
  · by_cases hz : D e = 0
    · by_cases hc : ok e ∧ org e = tgt e0 ∧ D e = 0 ∧ ¬ B (org e0) (org e) (tgt e)
      · refine ⟨hc.1, Or.inr ⟨fun z => ?_, e0, Or.inr rfl, hc.2.1.symm, hc.2.2.2, ?_⟩⟩
        · have := i2 e hc.1 z
          have := hwt e hc.1
          omega
        · rw [hY e hc.1 hc.2.1 hz hc.2.2.2, keep e0 h0]
      · exact absurd (by rw [hN e hc]; exact hz) he
    · obtain ⟨q1, q2⟩ := i1 e hz
      rw [keep e hz]
      refine ⟨q1, ?_⟩
      rcases q2 with q2 | ⟨q2, f, q3, q4, q5, q6⟩
      · exact Or.inl q2
      · exact Or.inr ⟨q2, f, Or.inl q3, q4, q5, by rw [keep f (i4 f q3).1]; exact q6⟩
  · rw [keep e (by rw [i2 e a b]; exact Nat.ne_of_gt (hwt e a))]
    exact i2 e a b
  · rcases a with a | a
    · obtain ⟨q1, q2⟩ := i3 f e a b c d g
      rw [keep e q1, keep f (i4 f a).1]
      exact ⟨q1, q2⟩
    · subst a
      rw [keep f h0]
      by_cases hz : D e = 0
      · rw [hY e b c hz g]
        exact ⟨by omega, Nat.le_refl _⟩
      · rw [keep e hz]
        refine ⟨hz, ?_⟩
        obtain ⟨q1, q2⟩ := i1 e hz
        rcases q2 with q2 | ⟨q2, f', q3, q4, q5, q6⟩
        · exact absurd q2.1 d
        · have := (i4 f' q3).2
          omega
  · rcases a with a | a
    · rw [keep e (i4 e a).1]
      exact ⟨(i4 e a).1, Nat.le_trans (i4 e a).2 hM⟩
    · subst a
      rw [keep e h0]
      exact ⟨h0, Nat.le_refl _⟩
  · by_cases hz : D e = 0
    · by_cases hc : ok e ∧ org e = tgt e0 ∧ D e = 0 ∧ ¬ B (org e0) (org e) (tgt e)
      · rw [hY e hc.1 hc.2.1 hz hc.2.2.2]; omega
      · exact absurd (by rw [hN e hc]; exact hz) a
    · rw [keep e hz]
      exact hmin e hz (fun z => b (Or.inl z))
theorem DInv.raise {s : Nat} {org tgt : Nat → Nat} {ok : Nat → Prop} {wt : Nat → Nat} {B : Nat → Nat → Nat → Prop} {D : Nat → Nat} {dn : Nat → Prop} {M M' : Nat} (h : DInv s org tgt ok wt B D dn M) (h4 : ∀ e, dn e → D e ≤ M') (h5 : ∀ e, D e ≠ 0 → ¬ dn e → M' ≤ D e) : DInv s org tgt ok wt B D dn M' :=
  ⟨h.1, h.2.1, h.2.2.1, fun e a => ⟨(h.2.2.2.1 e a).1, h4 e a⟩, h5⟩
/-- two searches over the same arcs, by other numbers, give the same values, as far as both have gone -/
theorem DInv.same {s : Nat} {org1 tgt1 org2 tgt2 : Nat → Nat} {ok1 ok2 : Nat → Prop} {wt1 wt2 : Nat → Nat} {B : Nat → Nat → Nat → Prop} {D1 D2 : Nat → Nat} {dn1 dn2 : Nat → Prop} {M1 M2 : Nat} (h1 : DInv s org1 tgt1 ok1 wt1 B D1 dn1 M1) (h2 : DInv s org2 tgt2 ok2 wt2 B D2 dn2 M2)
    (a12 : ∀ e, ok1 e → ∃ f, ok2 f ∧ org2 f = org1 e ∧ tgt2 f = tgt1 e) (a21 : ∀ f, ok2 f → ∃ e, ok1 e ∧ org1 e = org2 f ∧ tgt1 e = tgt2 f) (hw : ∀ e f, ok1 e → ok2 f → org1 e = org2 f → tgt1 e = tgt2 f → wt1 e = wt2 f) (p1 : ∀ e, ok1 e → 0 < wt1 e) :
    ∀ v, v ≠ 0 → v ≤ M1 → v ≤ M2 → ∀ e f, ok1 e → ok2 f → org1 e = org2 f → tgt1 e = tgt2 f → (D1 e = v ↔ D2 f = v) := by
  intro v
  induction v using Nat.strongRecOn with
  | ind v ih =>
    intro hv hm1 hm2 e f he hf ho ht
    have hwe := hw e f he hf ho ht
    have hp := p1 e he
    constructor
    · intro hd
      by_cases hs : org1 e = s
      · rw [h2.2.1 f hf (by rw [← ho]; exact hs), ← hwe, ← h1.2.1 e he hs]; exact hd
      · obtain ⟨-, q⟩ := h1.1 e (by rw [hd]; exact hv)
        rcases q with q | ⟨-, e', q1, q2, q3, q4⟩
        · exact absurd q.1 hs
        · obtain ⟨q5, -⟩ := h1.2.2.2.1 e' q1
          obtain ⟨f', r1, r2, r3⟩ := a12 e' (h1.1 e' q5).1
          have hu := (ih (D1 e') (by omega) q5 (by omega) (by omega) e' f' (h1.1 e' q5).1 r1 r2.symm r3.symm).mp rfl
          have hdn : dn2 f' := by
            by_cases hh : dn2 f'
            · exact hh
            · have := h2.2.2.2.2 f' (by rw [hu]; exact q5) hh
              omega
          obtain ⟨s1, s2⟩ := h2.2.2.1 f' f hdn hf (by rw [← ho, r3, q2]) (by rw [← ho]; exact hs) (by rw [r2, ← ho, ← ht]; exact q3)
          by_cases hlt : D2 f < v
          · have := (ih (D2 f) hlt s1 (by omega) (by omega) e f he hf ho ht).mpr rfl
            omega
          · omega
    · intro hd
      by_cases hs : org1 e = s
      · rw [h1.2.1 e he hs, hwe, ← h2.2.1 f hf (by rw [← ho]; exact hs)]; exact hd
      · obtain ⟨-, q⟩ := h2.1 f (by rw [hd]; exact hv)
        rcases q with q | ⟨-, f', q1, q2, q3, q4⟩
        · exact absurd (by rw [ho]; exact q.1) hs
        · obtain ⟨q5, -⟩ := h2.2.2.2.1 f' q1
          obtain ⟨e', r1, r2, r3⟩ := a21 f' (h2.1 f' q5).1
          have hu := (ih (D2 f') (by omega) q5 (by omega) (by omega) e' f' r1 (h2.1 f' q5).1 r2 r3).mpr rfl
          have hdn : dn1 e' := by
            by_cases hh : dn1 e'
            · exact hh
            · have := h1.2.2.2.2 e' (by rw [hu]; exact q5) hh
              omega
          obtain ⟨s1, s2⟩ := h1.2.2.1 e' e hdn he (by rw [ho, r3, q2]) hs (by rw [r2, ho, ht]; exact q3)
          by_cases hlt : D1 e < v
          · have := (ih (D1 e) hlt s1 (by omega) (by omega) e f he hf ho ht).mp rfl
            omega
          · omega
