/-! the abstract table of roads -/
def set1 (Cs : Nat → Nat → Int32) (a b : Nat) (x : Int32) : Nat → Nat → Int32 := fun u v => if u = a ∧ v = b then x else Cs u v
def setC (Cs : Nat → Nat → Int32) (a b : Nat) (x : Int32) : Nat → Nat → Int32 := set1 (set1 Cs a b x) b a x
theorem set1_self (Cs : Nat → Nat → Int32) (a b : Nat) (x : Int32) : set1 Cs a b x a b = x := if_pos ⟨rfl, rfl⟩
theorem set1_ne {Cs : Nat → Nat → Int32} {a b u v : Nat} {x : Int32} (h : ¬ (u = a ∧ v = b)) : set1 Cs a b x u v = Cs u v := if_neg h
theorem setC_1 (Cs : Nat → Nat → Int32) (a b : Nat) (x : Int32) : setC Cs a b x a b = x := by
  unfold setC
  by_cases h : a = b ∧ b = a
  · exact if_pos h
  · rw [set1_ne h, set1_self]
theorem setC_2 (Cs : Nat → Nat → Int32) (a b : Nat) (x : Int32) : setC Cs a b x b a = x := set1_self _ _ _ _
theorem setC_ne {Cs : Nat → Nat → Int32} {a b u v : Nat} {x : Int32} (h1 : ¬ (u = a ∧ v = b)) (h2 : ¬ (u = b ∧ v = a)) : setC Cs a b x u v = Cs u v := by
  unfold setC
  rw [set1_ne h2, set1_ne h1]
/-- the abstract table: both ways alike, none from a node to itself, costs in their range -/
def CS (n : Nat) (Cs : Nat → Nat → Int32) : Prop := (∀ a b, Cs a b = Cs b a) ∧ (∀ a, Cs a a = 0) ∧ (∀ a b, Cs a b ≠ 0 → a < n ∧ b < n ∧ ∃ c : Nat, 1 ≤ c ∧ c ≤ 1000000000 ∧ (Cs a b = nI c ∨ Cs a b = -nI c))
theorem CS.set {n : Nat} {Cs : Nat → Nat → Int32} (h : CS n Cs) {a b c : Nat} {x : Int32} (ha : a < n) (hb : b < n) (hab : a ≠ b) (hc : 1 ≤ c) (hc2 : c ≤ 1000000000) (hx : x = nI c ∨ x = -nI c) : CS n (setC Cs a b x) := by
  refine ⟨fun u v => ?_, fun u => ?_, fun u v hz => ?_⟩
  · by_cases h1 : u = a ∧ v = b
    · rw [h1.1, h1.2, setC_1, setC_2]
    · by_cases h2 : u = b ∧ v = a
      · rw [h2.1, h2.2, setC_1, setC_2]
      · rw [setC_ne h1 h2, setC_ne (fun z => h2 ⟨z.2, z.1⟩) (fun z => h1 ⟨z.2, z.1⟩)]
        exact h.1 u v
  · rw [setC_ne (fun z => hab (z.1.symm.trans z.2)) (fun z => hab (z.2.symm.trans z.1))]
    exact h.2.1 u
  · by_cases h1 : u = a ∧ v = b
    · rw [h1.1, h1.2, setC_1]
      exact ⟨ha, hb, c, hc, hc2, hx⟩
    · by_cases h2 : u = b ∧ v = a
      · rw [h2.1, h2.2, setC_2]
        exact ⟨hb, ha, c, hc, hc2, hx⟩
      · rw [setC_ne h1 h2] at hz ⊢
        exact h.2.2 u v hz
theorem nI_ne0' {c : Nat} (h : 1 ≤ c) (h2 : c ≤ 1000000000) : nI c ≠ 0 := fun z => nI_ne0 (n := c) (by omega) (by omega) z
theorem neg_ne0 {x : Int32} (h : x ≠ 0) : -x ≠ 0 := fun z => h (by rw [← Int32.neg_neg (a := x), z]; rfl)
theorem change_s {N n m a b : Nat} {E F : Nat → Nat} {vC : Nat → Int32} {Cs : Nat → Nat → Int32} {x : Int32} {post : (Nat → Int32) → Prop} (h : RT n m E F vC Cs) (hN : 4000 < N) (ha : a < n) (hb : b < n) (hab : a ≠ b) (h1 : Cs a b ≠ 0) (h2 : Cs b a ≠ 0) (hx : x ≠ 0) (hp : ∀ vC', RT n m E F vC' (setC Cs a b x) → post vC') : w_X1_change N (nI n) (aI E) vC (aI F) (nI a) (nI b) x post := by
  obtain ⟨n1, n2, n3⟩ := h.1
  obtain ⟨j1, k1, e1⟩ := h.2.2.2.2 a b ha hb h1
  obtain ⟨j2, k2, e2⟩ := h.2.2.2.2 b a hb ha h2
  unfold w_X1_change
  refine find_s h hN (fun a' b' j ha' hb' ea' eb' hj e => ?_) (fun hz => absurd e1 (hz a b ha hb rfl rfl j1 k1))
  have q1 := nI_inj (n := n) (by omega) ha ha' ea'
  have q2 := nI_inj (n := n) (by omega) hb hb' eb'
  subst q1 q2
  refine find_s h hN (fun b'' a'' i hb'' ha'' eb'' ea'' hi e' => ?_) (fun hz => absurd e2 (hz b a hb ha rfl rfl j2 k2))
  have q1 := nI_inj (n := n) (by omega) hb hb'' eb''
  have q2 := nI_inj (n := n) (by omega) ha ha'' ea''
  subst q1 q2
  refine ⟨fun z => absurd z (ne_m1 (by omega)), fun _ => ⟨fun _ => ⟨vp_in_nI (by omega) (by omega), vp_in_nI (by omega) (by omega), ?_⟩, fun z => absurd z (ne_m1 (by omega))⟩⟩
  rw [nI_clamp (by omega), nI_clamp (by omega)]
  refine hp _ ⟨h.1, h.2.1, h.2.2.1, fun t ht => ?_, fun u v hu hv hz => ?_⟩
  · obtain ⟨r1, r2, r3, r4⟩ := h.2.2.2.1 t ht
    refine ⟨r1, r2, ?_⟩
    by_cases t1 : t = i
    · subst t1
      have d1 : E t / 300 = b := by omega
      have d2 : E t % 300 = a := by omega
      rw [d1, d2, setC_2]
      exact ⟨if_pos rfl, hx⟩
    · by_cases t2 : t = j
      · subst t2
        have d1 : E t / 300 = a := by omega
        have d2 : E t % 300 = b := by omega
        rw [d1, d2, setC_1]
        refine ⟨?_, hx⟩
        unfold upd
        rw [if_neg t1, if_pos rfl]
      · rw [setC_ne (fun z => t2 (h.inj ht hj (by omega))) (fun z => t1 (h.inj ht hi (by omega)))]
        refine ⟨?_, r4⟩
        unfold upd
        rw [if_neg t1, if_neg t2]
        exact r3
  · by_cases c1 : u = a ∧ v = b
    · exact ⟨j, hj, by rw [c1.1, c1.2]; exact e⟩
    · by_cases c2 : u = b ∧ v = a
      · exact ⟨i, hi, by rw [c2.1, c2.2]; exact e'⟩
      · rw [setC_ne c1 c2] at hz
        exact h.2.2.2.2 u v hu hv hz
theorem addArc_l {N : Nat} {vA : Int32} {vE vC : Nat → Int32} {post : Int32 → (Nat → Int32) → (Nat → Int32) → (Nat → Int32) → Prop} : ∀ (k v : Nat) (Fc : Nat → Nat), v ≤ 301 → 301 - v < k → post vA vE vC (aI (fun u => if v ≤ u ∧ u ≤ 300 then Fc u + 1 else Fc u)) → w_X1_addArc_b55 N post k vA vE vC (aI Fc) (nI v) := by
  intro k
  induction k with
  | zero => intro v Fc _ h; omega
  | succ k ih =>
    intro v Fc hv hk hp
    show w_X1_addArc_b55_B N post _ vA vE vC (aI Fc) (nI v)
    unfold w_X1_addArc_b55_B
    refine pk_le 301 v (fun h => ?_) (fun h => ⟨vp_in_nI (by omega) (by omega), fun x hx => ?_⟩)
    · have e : (fun u => if v ≤ u ∧ u ≤ 300 then Fc u + 1 else Fc u) = Fc := funext (fun u => if_neg (by omega))
      rw [e] at hp
      exact hp
    · have e : x = nI (v + 1) := by rw [hx]; exact nI_1 v
      subst e
      rw [nI_clamp (by omega)]
      have e1 : aI Fc v + (1 : Int32) = nI (Fc v + 1) := nI_1 _
      rw [e1, aI_upd]
      refine ih (v + 1) _ (by omega) (by omega) ?_
      have e2 : (fun u => if v + 1 ≤ u ∧ u ≤ 300 then va_up Fc v (Fc v + 1) u + 1 else va_up Fc v (Fc v + 1) u) = (fun u => if v ≤ u ∧ u ≤ 300 then Fc u + 1 else Fc u) := by
        funext u
        by_cases q : u = v
        · subst q
          rw [va_up_self, if_neg (by omega), if_pos (by omega)]
        · rw [va_up_ne _ _ q]
          by_cases q2 : v ≤ u ∧ u ≤ 300
          · rw [if_pos q2, if_pos (by omega)]
          · rw [if_neg q2, if_neg (by omega)]
      rw [e2]
      exact hp
theorem addArc_s {N n m a b : Nat} {E F : Nat → Nat} {vC : Nat → Int32} {Cs : Nat → Nat → Int32} {x : Int32} {post : Int32 → (Nat → Int32) → (Nat → Int32) → (Nat → Int32) → Prop} (h : RT n m E F vC Cs) (hN : 4000 < N) (hm : m < 4000) (ha : a < n) (hb : b < n) (h1 : Cs a b = 0) (hx : x ≠ 0) (hp : ∀ E' F' vC', RT n (m + 1) E' F' vC' (set1 Cs a b x) → post (nI (m + 1)) (aI E') vC' (aI F')) : w_X1_addArc N (nI m) (aI E) vC (aI F) (nI a) (nI b) x post := by
  obtain ⟨n1, n2, n3⟩ := h.1
  unfold w_X1_addArc
  refine placeOf_s h hN ha hb (fun r r1 r2 r3 => ?_)
  unfold w_X1_key
  rw [key2]
  refine insert_s r1 hm (by omega) ?_
  rw [ins_aI]
  refine insert_s r1 hm (by omega) ?_
  intro y hy
  have e : y = nI (a + 1) := by rw [hy]; exact nI_1 a
  subst e
  have e1 : nI m + (1 : Int32) = nI (m + 1) := nI_1 m
  rw [e1]
  have nk : ∀ j, j < m → E j ≠ 300 * a + b := fun j hj e => by
    have d1 : E j / 300 = a := by omega
    have d2 : E j % 300 = b := by omega
    have := (h.2.2.2.1 j hj).2.2.2
    rw [d1, d2] at this
    exact this h1
  have insL : ∀ {α : Type} (A : Nat → α) (v : α) j, j < r → ins A r m v j = A j := fun A v j hj => by unfold ins; rw [if_pos hj]
  have insM : ∀ {α : Type} (A : Nat → α) (v : α), ins A r m v r = v := fun A v => by unfold ins; rw [if_neg (by omega), if_pos rfl]
  have insR : ∀ {α : Type} (A : Nat → α) (v : α) j, r < j → j ≤ m → ins A r m v j = A (j - 1) := fun A v j hj hj2 => by unfold ins; rw [if_neg (by omega), if_neg (by omega), if_pos hj2]
  refine addArc_l N (a + 1) F (by omega) (by omega) (hp _ _ _ ⟨⟨n1, n2, by omega⟩, fun i j hij hj => ?_, fun v hv => ?_, fun j hj => ?_, fun u v hu hv hz => ?_⟩)
  · rcases Nat.lt_trichotomy i r with q | q | q
    · rw [insL E _ i q]
      rcases Nat.lt_trichotomy j r with q' | q' | q'
      · rw [insL E _ j q']; exact h.2.1 i j hij (by omega)
      · rw [q', insM]; exact (r2 i (by omega)).mp q
      · rw [insR E _ j q' (by omega)]
        by_cases q3 : i = j - 1
        · omega
        · exact h.2.1 i (j - 1) (by omega) (by omega)
    · rw [q, insM, insR E _ j (by omega) (by omega)]
      have c1 : ¬ E (j - 1) < 300 * a + b := fun z => by have := (r2 (j - 1) (by omega)).mpr z; omega
      have c2 := nk (j - 1) (by omega)
      omega
    · rw [insR E _ i q (by omega), insR E _ j (by omega) (by omega)]
      exact h.2.1 (i - 1) (j - 1) (by omega) (by omega)
  · obtain ⟨f1, f2⟩ := h.2.2.1 v hv
    show (if a + 1 ≤ v ∧ v ≤ 300 then F v + 1 else F v) ≤ m + 1 ∧ ∀ j, j < m + 1 → (j < (if a + 1 ≤ v ∧ v ≤ 300 then F v + 1 else F v) ↔ ins E r m (300 * a + b) j < 300 * v)
    by_cases hva : a + 1 ≤ v ∧ v ≤ 300
    · rw [if_pos hva]
      refine ⟨by omega, fun j hj => ?_⟩
      have hr : r ≤ F v := by
        by_cases c : r ≤ F v
        · exact c
        · have c1 := (r2 (F v) (by omega)).mp (by omega)
          have c2 := (f2 (F v) (by omega)).mpr (by omega)
          omega
      rcases Nat.lt_trichotomy j r with q | q | q
      · rw [insL E _ j q]
        have := (r2 j (by omega)).mp q
        omega
      · rw [q, insM]; omega
      · rw [insR E _ j q (by omega)]
        have := f2 (j - 1) (by omega)
        omega
    · rw [if_neg hva]
      refine ⟨by omega, fun j hj => ?_⟩
      have hr : F v ≤ r := by
        by_cases c : F v ≤ r
        · exact c
        · have c1 := (f2 r (by omega)).mp (by omega)
          have c2 := (r2 r (by omega)).mpr (by omega)
          omega
      rcases Nat.lt_trichotomy j r with q | q | q
      · rw [insL E _ j q]; exact f2 j (by omega)
      · rw [q, insM]; omega
      · rw [insR E _ j q (by omega)]
        have c1 : ¬ E (j - 1) < 300 * a + b := fun z => by have := (r2 (j - 1) (by omega)).mpr z; omega
        have := f2 (j - 1) (by omega)
        omega
  · rcases Nat.lt_trichotomy j r with q | q | q
    · rw [insL E _ j q, insL vC _ j q]
      obtain ⟨g1, g2, g3, g4⟩ := h.2.2.2.1 j (by omega)
      have c := nk j (by omega)
      rw [set1_ne (fun z => c (by omega))]
      exact ⟨g1, g2, g3, g4⟩
    · rw [q, insM, insM]
      have d1 : (300 * a + b) / 300 = a := by omega
      have d2 : (300 * a + b) % 300 = b := by omega
      rw [d1, d2, set1_self]
      exact ⟨ha, hb, rfl, hx⟩
    · rw [insR E _ j q (by omega), insR vC _ j q (by omega)]
      obtain ⟨g1, g2, g3, g4⟩ := h.2.2.2.1 (j - 1) (by omega)
      have c := nk (j - 1) (by omega)
      rw [set1_ne (fun z => c (by omega))]
      exact ⟨g1, g2, g3, g4⟩
  · by_cases c : u = a ∧ v = b
    · exact ⟨r, by omega, by rw [insM, c.1, c.2]⟩
    · rw [set1_ne c] at hz
      obtain ⟨j, hj, e⟩ := h.2.2.2.2 u v hu hv hz
      by_cases q : j < r
      · exact ⟨j, by omega, by rw [insL E _ j q]; exact e⟩
      · exact ⟨j + 1, by omega, by rw [insR E _ (j + 1) (by omega) (by omega)]; exact e⟩
theorem add_s {N n m a b : Nat} {E F : Nat → Nat} {vC : Nat → Int32} {Cs : Nat → Nat → Int32} {x : Int32} {post : Int32 → (Nat → Int32) → (Nat → Int32) → (Nat → Int32) → Prop} (h : RT n m E F vC Cs) (hN : 4000 < N) (hm : m + 1 < 4000) (ha : a < n) (hb : b < n) (hab : a ≠ b) (h1 : Cs a b = 0) (h2 : Cs b a = 0) (hx : x ≠ 0) (hp : ∀ E' F' vC', RT n (m + 2) E' F' vC' (setC Cs a b x) → post (nI (m + 2)) (aI E') vC' (aI F')) : w_X1_add N (nI m) (aI E) vC (aI F) (nI a) (nI b) x post := by
  unfold w_X1_add
  refine addArc_s h hN (by omega) ha hb h1 hx (fun E1 F1 vC1 k1 => ?_)
  exact addArc_s k1 hN hm hb ha (by rw [set1_ne (fun z => hab z.2)]; exact h2) hx (fun E2 F2 vC2 k2 => hp E2 F2 vC2 k2)
/-- road(), abstractly: the answer, the count, the table -/
noncomputable def rdF (n k : Nat) (Cs : Nat → Nat → Int32) (x1 x2 x3 : Int32) : Int32 × Nat × (Nat → Nat → Int32) :=
  @ite _ (isN n x1 ∧ isN n x2 ∧ x1 ≠ x2) (Classical.propDecidable _)
    (if x3 < 1 ∨ ¬ x3 ≤ 1000000000 then (-1, k, Cs) else if Cs x1.toNatClampNeg x2.toNatClampNeg = 0 then (if k < 2000 then (nI (k + 1), k + 1, setC Cs x1.toNatClampNeg x2.toNatClampNeg x3) else (-12, k, Cs)) else (nI k, k, setC Cs x1.toNatClampNeg x2.toNatClampNeg (if 0 ≤ Cs x1.toNatClampNeg x2.toNatClampNeg then x3 else -x3)))
    (-14, k, Cs)
theorem rdF_bad {n k : Nat} {Cs : Nat → Nat → Int32} {x1 x2 x3 : Int32} (h : ¬ (isN n x1 ∧ isN n x2 ∧ x1 ≠ x2)) : rdF n k Cs x1 x2 x3 = (-14, k, Cs) := if_neg h
theorem rdF_in {n k a b : Nat} {Cs : Nat → Nat → Int32} {x3 : Int32} (hn : n ≤ 300) (ha : a < n) (hb : b < n) (hab : a ≠ b) : rdF n k Cs (nI a) (nI b) x3 = (if x3 < 1 ∨ ¬ x3 ≤ 1000000000 then (-1, k, Cs) else if Cs a b = 0 then (if k < 2000 then (nI (k + 1), k + 1, setC Cs a b x3) else (-12, k, Cs)) else (nI k, k, setC Cs a b (if 0 ≤ Cs a b then x3 else -x3))) := by
  unfold rdF
  rw [if_pos ⟨⟨a, ha, rfl⟩, ⟨b, hb, rfl⟩, fun z => hab (nI_inj (n := n) (by omega) ha hb z)⟩, nI_clamp (by omega), nI_clamp (by omega)]
theorem cost_of {x3 : Int32} (h1 : ¬ x3 < 1) (h2 : x3 ≤ 1000000000) : ∃ c : Nat, 1 ≤ c ∧ c ≤ 1000000000 ∧ x3 = nI c := by
  have h0 : ¬ x3 < 0 := fun z => h1 (Int32.lt_trans z (by decide))
  obtain ⟨c, hc, e⟩ := nI_of2 (M := 1000000000) (n := 1000000000) (by decide) h0 h2
  refine ⟨c, ?_, hc, e⟩
  by_cases q : 1 ≤ c
  · exact q
  · have : c = 0 := by omega
    subst this
    exact absurd (by rw [e]; decide) h1
theorem count_s {N k : Nat} {post : Int32 → Prop} (hk : k ≤ 2000) (hp : post (nI k)) : w_X1_count N (nI (2 * k)) post := by
  show post (nI (2 * k) / (2 : Int32))
  rw [show (2 : Int32) = nI 2 from rfl, pk_div (by omega) (by omega) (by omega), show 2 * k / 2 = k by omega]
  exact hp
theorem road_X {N n k : Nat} {E F : Nat → Nat} {vC : Nat → Int32} {Cs : Nat → Nat → Int32} {x1 x2 x3 : Int32} {post : Int32 → Int32 → (Nat → Int32) → (Nat → Int32) → (Nat → Int32) → Prop} (h : RT n (2 * k) E F vC Cs) (hC : CS n Cs) (hN : 4000 < N) (hp : ∀ E' F' vC', RT n (2 * (rdF n k Cs x1 x2 x3).2.1) E' F' vC' (rdF n k Cs x1 x2 x3).2.2 → post (rdF n k Cs x1 x2 x3).1 (nI (2 * (rdF n k Cs x1 x2 x3).2.1)) (aI E') vC' (aI F')) : w_X4_road N (nI n) (nI (2 * k)) (aI E) vC (aI F) x1 x2 x3 post := by
  obtain ⟨n1, n2, n3⟩ := h.1
  unfold w_X4_road
  have bad : ¬ (isN n x1 ∧ isN n x2 ∧ x1 ≠ x2) → post (-14) (nI (2 * k)) (aI E) vC (aI F) := fun hb => by
    rw [rdF_bad hb] at hp
    exact hp E F vC h
  refine hasNode_s (by omega) (fun a ha ea => ⟨fun z => absurd z (by decide), fun _ => ?_⟩) (fun hz => ⟨fun _ => bad (fun z => hz z.1), fun z => absurd rfl z⟩)
  refine hasNode_s (by omega) (fun b hb eb => ⟨fun z => absurd z (by decide), fun _ => ?_⟩) (fun hz => ⟨fun _ => bad (fun z => hz z.2.1), fun z => absurd rfl z⟩)
  refine ⟨fun hne => ?_, fun he => bad (fun z => z.2.2 he)⟩
  subst ea eb
  have hab : a ≠ b := fun z => hne (by rw [z])
  rw [rdF_in n2 ha hb hab] at hp
  by_cases hc : x3 < 1 ∨ ¬ x3 ≤ 1000000000
  · rw [if_pos hc] at hp
    have p1 := hp E F vC h
    exact ⟨fun _ => p1, fun q => ⟨fun q2 => hc.elim (fun z => absurd z q) (fun z => absurd q2 z), fun _ => p1⟩⟩
  · rw [if_neg hc] at hp
    have c1 : ¬ x3 < 1 := fun z => hc (Or.inl z)
    have c2 : x3 ≤ 1000000000 := by
      by_cases q : x3 ≤ 1000000000
      · exact q
      · exact absurd (Or.inr q) hc
    obtain ⟨c, hc1, hc2, ec⟩ := cost_of c1 c2
    have hx0 : x3 ≠ 0 := by rw [ec]; exact nI_ne0' hc1 hc2
    refine ⟨fun z => absurd z c1, fun _ => ⟨fun _ => ?_, fun z => absurd c2 z⟩⟩
    refine signedCost_s h hN (fun v hv => ?_)
    have ev : v = Cs a b := hv.1 a b ha hb rfl rfl
    subst ev
    refine ⟨fun h0 => ?_, fun h0 => ?_⟩
    · rw [if_pos h0] at hp
      refine count_s (by omega) ?_
      refine pk_lt k 2000 (fun hk => ?_) (fun hk => ?_)
      · rw [if_pos hk] at hp
        refine add_s h hN (by omega) ha hb hab h0 (by rw [hC.1 b a]; exact h0) hx0 (fun E' F' vC' hR => ?_)
        have e2 : 2 * k + 2 = 2 * (k + 1) := by omega
        rw [e2] at hR ⊢
        exact count_s (by omega) (hp E' F' vC' hR)
      · rw [if_neg (by omega)] at hp
        exact hp E F vC h
    · rw [if_neg h0] at hp
      have hs : Cs b a ≠ 0 := by rw [hC.1 b a]; exact h0
      refine ⟨fun hs1 => ?_, fun hs1 => ?_⟩
      · rw [if_pos hs1] at hp
        unfold w_X4_road_b76
        exact change_s h hN ha hb hab h0 hs hx0 (fun vC' hR => count_s (by omega) (hp E F vC' hR))
      · rw [if_neg hs1] at hp
        unfold w_X4_road_b76
        exact change_s h hN ha hb hab h0 hs (neg_ne0 hx0) (fun vC' hR => count_s (by omega) (hp E F vC' hR))
/-- close(), abstractly -/
noncomputable def clF (n : Nat) (Cs : Nat → Nat → Int32) (x1 x2 x3 : Int32) : Int32 × (Nat → Nat → Int32) :=
  @ite _ (isN n x1 ∧ isN n x2 ∧ Cs x1.toNatClampNeg x2.toNatClampNeg ≠ 0 ∧ (if 0 ≤ Cs x1.toNatClampNeg x2.toNatClampNeg then (0 : Int32) else 1) ≠ x3) (Classical.propDecidable _)
    (1, setC Cs x1.toNatClampNeg x2.toNatClampNeg (-Cs x1.toNatClampNeg x2.toNatClampNeg)) (0, Cs)
theorem close_X {N n m : Nat} {E F : Nat → Nat} {vC : Nat → Int32} {Cs : Nat → Nat → Int32} {x1 x2 x3 : Int32} {post : Int32 → (Nat → Int32) → Prop} (h : RT n m E F vC Cs) (hC : CS n Cs) (hN : 4000 < N) (hp : ∀ vC', RT n m E F vC' (clF n Cs x1 x2 x3).2 → post (clF n Cs x1 x2 x3).1 vC') : w_X4_close N (nI n) (aI E) vC (aI F) x1 x2 x3 post := by
  obtain ⟨n1, n2, n3⟩ := h.1
  unfold w_X4_close
  refine signedCost_s h hN (fun v hv => ?_)
  have bad : ¬ (isN n x1 ∧ isN n x2 ∧ Cs x1.toNatClampNeg x2.toNatClampNeg ≠ 0 ∧ (if 0 ≤ Cs x1.toNatClampNeg x2.toNatClampNeg then (0 : Int32) else 1) ≠ x3) → post 0 vC := fun hb => by
    unfold clF at hp
    rw [if_neg hb] at hp
    exact hp vC h
  by_cases hn1 : isN n x1
  · by_cases hn2 : isN n x2
    · obtain ⟨a, ha, ea⟩ := hn1
      obtain ⟨b, hb, eb⟩ := hn2
      have ev := hv.1 a b ha hb ea eb
      subst ea eb
      rw [nI_clamp (by omega), nI_clamp (by omega)] at bad
      refine ⟨fun h0 => bad (fun z => z.2.2.1 (by rw [← ev]; exact h0)), fun h0 => ?_⟩
      have hab : a ≠ b := fun z => h0 (by rw [ev, z]; exact hC.2.1 b)
      have hs : Cs b a ≠ 0 := by rw [hC.1 b a, ← ev]; exact h0
      have fin : ∀ y : Int32, y = (if 0 ≤ Cs a b then (0 : Int32) else 1) → w_X4_close_b26 N (nI n) (aI E) (aI F) (nI a) (nI b) x3 post vC v y := by
        intro y hy
        unfold w_X4_close_b26
        refine ⟨fun hne => ?_, fun he => bad (fun z => z.2.2.2 (by rw [← hy]; exact he))⟩
        have hgood : isN n (nI a) ∧ isN n (nI b) ∧ Cs (nI a).toNatClampNeg (nI b).toNatClampNeg ≠ 0 ∧ (if 0 ≤ Cs (nI a).toNatClampNeg (nI b).toNatClampNeg then (0 : Int32) else 1) ≠ x3 := by
          rw [nI_clamp (by omega), nI_clamp (by omega)]
          exact ⟨⟨a, ha, rfl⟩, ⟨b, hb, rfl⟩, by rw [← ev]; exact h0, by rw [← hy]; exact hne⟩
        unfold clF at hp
        rw [if_pos hgood, nI_clamp (by omega), nI_clamp (by omega)] at hp
        rw [ev]
        exact change_s h hN ha hb hab (by rw [← ev]; exact h0) hs (neg_ne0 (by rw [← ev]; exact h0)) hp
      refine ⟨fun hs1 => fin 0 ?_, fun hs1 => fin 1 ?_⟩
      · rw [← ev, if_pos hs1]
      · rw [← ev, if_neg hs1]
    · have := hv.2 (Or.inr hn2)
      exact ⟨fun _ => bad (fun z => hn2 z.2.1), fun z => absurd this z⟩
  · have := hv.2 (Or.inl hn1)
    exact ⟨fun _ => bad (fun z => hn1 z.1), fun z => absurd this z⟩
