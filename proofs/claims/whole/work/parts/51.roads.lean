/-! arrays of numbers -/
def aI (f : Nat → Nat) : Nat → Int32 := fun j => nI (f j)
def aL (f : Nat → Nat) : Nat → Int64 := fun j => lN (f j)
theorem aI_upd (f : Nat → Nat) (k x : Nat) : upd (aI f) k (nI x) = aI (va_up f k x) := by
  funext j
  unfold upd aI va_up
  split <;> rfl
theorem aL_upd (f : Nat → Nat) (k x : Nat) : vp_updL (aL f) k (lN x) = aL (va_up f k x) := by
  funext j
  unfold vp_updL aL va_up
  split <;> rfl
def ins {α : Type} (A : Nat → α) (pl cnt : Nat) (v : α) : Nat → α := fun j => if j < pl then A j else if j = pl then v else if j ≤ cnt then A (j - 1) else A j
def del {α : Type} (A : Nat → α) (pl cnt : Nat) : Nat → α := fun j => if pl ≤ j ∧ j + 1 < cnt then A (j + 1) else A j
theorem ins_eq (A : Nat → Int32) {pl cnt : Nat} (x : Int32) (h : pl ≤ cnt) : upd (va_cpy A A pl (pl + 1) (cnt - pl)) pl x = ins A pl cnt x := by
  funext j
  unfold upd ins va_cpy
  by_cases h1 : j = pl
  · subst h1
    rw [if_pos rfl, if_neg (by omega), if_pos rfl]
  · rw [if_neg h1]
    by_cases h2 : j < pl
    · rw [if_pos h2, if_neg (by omega)]
    · rw [if_neg h2, if_neg h1]
      by_cases h3 : j ≤ cnt
      · rw [if_pos h3, if_pos (by omega)]
        exact congrArg A (by omega)
      · rw [if_neg h3, if_neg (by omega)]
theorem ins_aI (f : Nat → Nat) (pl cnt x : Nat) : ins (aI f) pl cnt (nI x) = aI (ins f pl cnt x) := by
  funext j
  show ins (aI f) pl cnt (nI x) j = nI (ins f pl cnt x j)
  by_cases h1 : j < pl
  · simp only [ins, aI, if_pos h1]
  · by_cases h2 : j = pl
    · simp only [ins, aI, if_neg h1, if_pos h2]
    · by_cases h3 : j ≤ cnt
      · simp only [ins, aI, if_neg h1, if_neg h2, if_pos h3]
      · simp only [ins, aI, if_neg h1, if_neg h2, if_neg h3]
theorem del_aI (f : Nat → Nat) (pl cnt : Nat) : del (aI f) pl cnt = aI (del f pl cnt) := by
  funext j
  show del (aI f) pl cnt j = nI (del f pl cnt j)
  by_cases h1 : pl ≤ j ∧ j + 1 < cnt
  · simp only [del, aI, if_pos h1]
  · simp only [del, aI, if_neg h1]
theorem i300 : (300 : Int32) = nI 300 := rfl
theorem key2 (a b : Nat) : nI a * (300 : Int32) + nI b = nI (300 * a + b) := by
  rw [i300, pk_mul, nI_add, Nat.mul_comm]
theorem key3 (a b c : Nat) : (nI a * (300 : Int32) + nI b) * (300 : Int32) + nI c = nI (300 * (300 * a + b) + c) := by
  rw [key2, key2]
/-! a node -/
def isN (n : Nat) (x : Int32) : Prop := ∃ a, a < n ∧ x = nI a
theorem hasNode_s {N n : Nat} {x : Int32} {post : Int32 → Prop} (hn : n < 2 ^ 31) (h1 : ∀ a, a < n → x = nI a → post 1) (h0 : ¬ isN n x → post 0) : w_X1_hasNode N (nI n) x post := by
  unfold w_X1_hasNode
  rcases pk_ix x hn with h | h | ⟨j, hj, e⟩
  · have p0 := h0 (fun ⟨a, ha, e⟩ => nI_pos (n := a) (by omega) (by rw [← e]; exact h))
    exact ⟨fun _ => p0, fun z => absurd h z⟩
  · have p0 := h0 (fun ⟨a, ha, e⟩ => nI_ge (a := a) (b := n) ha hn (by rw [← e]; exact h))
    exact ⟨fun _ => p0, fun _ => ⟨fun _ => p0, fun z => absurd h z⟩⟩
  · subst e
    exact ⟨fun z => absurd z (nI_pos (by omega)), fun _ => ⟨fun z => absurd z (nI_ge hj hn), fun _ => h1 j hj rfl⟩⟩
theorem isNode_s {N n : Nat} {x : Int32} {post : Int32 → Prop} (hn : n < 2 ^ 31) (h1 : ∀ a, a < n → x = nI a → post 1) (h0 : ¬ isN n x → post 0) : w_X5_isNode N (nI n) x post := hasNode_s (N := N) hn h1 h0
theorem nI_inj {a b n : Nat} (hn : n < 2 ^ 31) (ha : a < n) (hb : b < n) (h : nI a = nI b) : a = b := (nI_eq (by omega) (by omega)).mp h
/-! the place of a key in a sorted row -/
theorem placeIn_l {N np lo hi key : Nat} {E : Nat → Nat} {post : Int32 → Prop} (hnp : np < 2 ^ 30) (hhi : hi ≤ np) (hE : ∀ j, lo ≤ j → j < hi → E j < 2 ^ 31) (hk : key < 2 ^ 31) (hs : ∀ i j, lo ≤ i → i < j → j < hi → E i ≤ E j) (hp : ∀ r, lo ≤ r → r ≤ hi → (∀ j, lo ≤ j → j < r → E j < key) → (∀ j, r ≤ j → j < hi → key ≤ E j) → post (nI r)) :
    ∀ (n a b : Nat), lo ≤ a → a ≤ b → b ≤ hi → b - a < n → (∀ j, lo ≤ j → j < a → E j < key) → (∀ j, b ≤ j → j < hi → key ≤ E j) → w_X4_placeIn_b6 N (aI E) np (nI key) post n (nI a) (nI b) := by
  intro n
  induction n with
  | zero => intro a b _ _ _ h; omega
  | succ n ih =>
    intro a b h1 h2 h3 h4 h5 h6
    show w_X4_placeIn_b6_B N (aI E) np (nI key) post _ (nI a) (nI b)
    unfold w_X4_placeIn_b6_B
    refine pk_le b a (fun h => ?_) (fun h => ?_)
    · have e : a = b := by omega
      subst e
      exact hp a h1 h3 h5 h6
    · intro mid hmid
      have e : mid = nI (a + (b - a) / 2) := by
        rw [hmid, pk_sub h2, show (2 : Int32) = nI 2 from rfl, pk_div (by omega) (by omega) (by omega), nI_add]
      subst e
      refine ⟨vp_in_nI (by omega) (by omega), ?_⟩
      rw [nI_clamp (by omega)]
      have hm := hE (a + (b - a) / 2) (by omega) (by omega)
      refine pk_le key (E (a + (b - a) / 2)) (fun h => ?_) (fun h => ?_) rfl rfl hk hm
      · refine ih a (a + (b - a) / 2) h1 (by omega) (by omega) (by omega) h5 (fun j q1 q2 => ?_)
        by_cases hj : j = a + (b - a) / 2
        · rw [hj]; exact h
        · exact Nat.le_trans h (hs _ j (by omega) (by omega) q2)
      · intro x hx
        have e : x = nI (a + (b - a) / 2 + 1) := by rw [hx]; exact nI_1 _
        subst e
        refine ih (a + (b - a) / 2 + 1) b (by omega) (by omega) h3 (by omega) (fun j q1 q2 => ?_) h6
        by_cases hj : j = a + (b - a) / 2
        · rw [hj]; exact h
        · exact Nat.lt_of_le_of_lt (hs j _ q1 (by omega) (by omega)) h
theorem placeIn_s {N np lo hi key : Nat} {E : Nat → Nat} {post : Int32 → Prop} (hN : np < N) (hnp : np < 2 ^ 30) (hlo : lo ≤ hi) (hhi : hi ≤ np) (hE : ∀ j, lo ≤ j → j < hi → E j < 2 ^ 31) (hk : key < 2 ^ 31) (hs : ∀ i j, lo ≤ i → i < j → j < hi → E i ≤ E j) (hp : ∀ r, lo ≤ r → r ≤ hi → (∀ j, lo ≤ j → j < r → E j < key) → (∀ j, r ≤ j → j < hi → key ≤ E j) → post (nI r)) : w_X4_placeIn N (aI E) np (nI lo) (nI hi) (nI key) post :=
  placeIn_l hnp hhi hE hk hs hp N lo hi (Nat.le_refl _) hlo (Nat.le_refl _) (by omega) (fun j a b => by omega) (fun j a b => by omega)
theorem insert_s {N np cnt pl : Nat} {vp : Nat → Int32} {x : Int32} {post : (Nat → Int32) → Prop} (h1 : pl ≤ cnt) (h2 : cnt < np) (h3 : np < 2 ^ 30) (h : post (ins vp pl cnt x)) : w_X4_insert N vp np (nI cnt) (nI pl) x post := by
  unfold w_X4_insert
  refine ⟨fun z => absurd z (nI_pos (by omega)), fun _ => ?_⟩
  refine ⟨fun z => absurd ((nI_ltI (by omega) (by omega)).mp z) (by omega), fun _ => ?_⟩
  refine ⟨fun _ => ?_, fun z => absurd (nI_lt h2 (by omega)) z⟩
  have e1 : nI pl + (1 : Int32) = nI (pl + 1) := nI_1 pl
  rw [e1, pk_sub h1, nI_clamp (by omega), nI_clamp (by omega), nI_clamp (by omega), ins_eq vp x h1]
  refine ⟨⟨⟨nI_pos (by omega), nI_pos (by omega), nI_pos (by omega)⟩, ?_, ?_⟩, vp_in_nI (by omega) (by omega), h⟩
  · rw [nI_clamp (by omega), nI_clamp (by omega)]; omega
  · rw [nI_clamp (by omega), nI_clamp (by omega)]; omega
/-! the class's table of roads -/
def RT (n m : Nat) (E F : Nat → Nat) (vC : Nat → Int32) (Cs : Nat → Nat → Int32) : Prop :=
  (1 ≤ n ∧ n ≤ 300 ∧ m ≤ 4000) ∧ (∀ i j, i < j → j < m → E i < E j) ∧ (∀ v, v ≤ 300 → F v ≤ m ∧ ∀ j, j < m → (j < F v ↔ E j < 300 * v)) ∧
  (∀ j, j < m → E j / 300 < n ∧ E j % 300 < n ∧ vC j = Cs (E j / 300) (E j % 300) ∧ Cs (E j / 300) (E j % 300) ≠ 0) ∧
  (∀ a b, a < n → b < n → Cs a b ≠ 0 → ∃ j, j < m ∧ E j = 300 * a + b)
theorem RT.lt {n m : Nat} {E F : Nat → Nat} {vC : Nat → Int32} {Cs : Nat → Nat → Int32} (h : RT n m E F vC Cs) {j : Nat} (hj : j < m) : E j < 90000 := by
  have := (h.2.2.2.1 j hj).1
  have := h.1.2.1
  omega
theorem RT.inj {n m : Nat} {E F : Nat → Nat} {vC : Nat → Int32} {Cs : Nat → Nat → Int32} (h : RT n m E F vC Cs) {i j : Nat} (hi : i < m) (hj : j < m) (e : E i = E j) : i = j := by
  rcases Nat.lt_trichotomy i j with q | q | q
  · have := h.2.1 i j q hj; omega
  · exact q
  · have := h.2.1 j i q hi; omega
/-- the arcs of a node stand together -/
theorem RT.seg {n m : Nat} {E F : Nat → Nat} {vC : Nat → Int32} {Cs : Nat → Nat → Int32} (h : RT n m E F vC Cs) {a j : Nat} (ha : a < 300) (hj : j < m) : (F a ≤ j ∧ j < F (a + 1)) ↔ E j / 300 = a := by
  have h1 := (h.2.2.1 a (by omega)).2 j hj
  have h2 := (h.2.2.1 (a + 1) (by omega)).2 j hj
  constructor
  · rintro ⟨q1, q2⟩
    have := h2.mp q2
    have : ¬ E j < 300 * a := fun z => by have := h1.mpr z; omega
    omega
  · intro e
    have q1 : ¬ j < F a := fun z => by have := h1.mp z; omega
    have q2 := h2.mpr (by omega)
    omega
theorem RT.Fle {n m : Nat} {E F : Nat → Nat} {vC : Nat → Int32} {Cs : Nat → Nat → Int32} (h : RT n m E F vC Cs) {a : Nat} (ha : a < 300) : F a ≤ F (a + 1) := by
  by_cases hm : F a ≤ F (a + 1)
  · exact hm
  · have h1 := (h.2.2.1 a (by omega)).1
    have h2 := ((h.2.2.1 a (by omega)).2 (F (a + 1)) (by omega)).mp (by omega)
    have h3 := ((h.2.2.1 (a + 1) (by omega)).2 (F (a + 1)) (by omega)).mpr (by omega)
    omega
theorem placeOf_s {N n m a b : Nat} {E F : Nat → Nat} {vC : Nat → Int32} {Cs : Nat → Nat → Int32} {post : Int32 → Prop} (h : RT n m E F vC Cs) (hN : 4000 < N) (ha : a < n) (hb : b < n) (hp : ∀ r, r ≤ m → (∀ j, j < m → (j < r ↔ E j < 300 * a + b)) → r ≤ F (a + 1) → post (nI r)) : w_X1_placeOf N (aI E) (aI F) (nI a) (nI b) post := by
  obtain ⟨n1, n2, n3⟩ := h.1
  unfold w_X1_placeOf
  have e1 : nI a + (1 : Int32) = nI (a + 1) := nI_1 a
  rw [e1, nI_clamp (by omega), nI_clamp (by omega)]
  refine ⟨vp_in_nI (by omega) (by omega), vp_in_nI (by omega) (by omega), ?_⟩
  show w_X4_placeIn N (aI E) 4000 _ _ (nI a * (300 : Int32) + nI b) _
  rw [key2]
  have f1 := h.2.2.1 a (by omega)
  have f2 := h.2.2.1 (a + 1) (by omega)
  refine placeIn_s hN (by omega) (h.Fle (by omega)) (by omega) (fun j q1 q2 => ?_) (by omega) (fun i j q1 q2 q3 => Nat.le_of_lt (h.2.1 i j q2 (by omega))) (fun r r1 r2 r3 r4 => hp r (by omega) (fun j hj => ?_) r2)
  · have := h.lt (j := j) (by omega); omega
  · constructor
    · intro hr
      by_cases hlo : F a ≤ j
      · exact r3 j hlo hr
      · have := (f1.2 j hj).mp (by omega); omega
    · intro hr
      by_cases hjr : j < r
      · exact hjr
      · have : j < F (a + 1) := (f2.2 j hj).mpr (by omega)
        have := r4 j (by omega) this
        omega
theorem find_s {N n m : Nat} {E F : Nat → Nat} {vC : Nat → Int32} {Cs : Nat → Nat → Int32} {x1 x2 : Int32} {post : Int32 → Prop} (h : RT n m E F vC Cs) (hN : 4000 < N) (h1 : ∀ a b j, a < n → b < n → x1 = nI a → x2 = nI b → j < m → E j = 300 * a + b → post (nI j)) (h2 : (∀ a b, a < n → b < n → x1 = nI a → x2 = nI b → ∀ j, j < m → E j ≠ 300 * a + b) → post (-1)) : w_X1_find N (nI n) (aI E) (aI F) x1 x2 post := by
  obtain ⟨n1, n2, n3⟩ := h.1
  unfold w_X1_find
  refine hasNode_s (by omega) (fun a ha ea => ⟨fun z => absurd z (by decide), fun _ => ?_⟩) (fun hz => ⟨fun _ => h2 (fun a b ha _ ea => absurd ⟨a, ha, ea⟩ hz), fun z => absurd rfl z⟩)
  refine hasNode_s (by omega) (fun b hb eb => ⟨fun _ => ?_, fun z => absurd z (by decide)⟩) (fun hz => ⟨fun z => absurd rfl z, fun _ => h2 (fun a b _ hb _ eb => absurd ⟨b, hb, eb⟩ hz)⟩)
  subst ea eb
  refine placeOf_s h hN ha hb (fun r r1 r2 r3 => ?_)
  have e1 : nI a + (1 : Int32) = nI (a + 1) := nI_1 a
  rw [e1, nI_clamp (by omega)]
  have f2 := h.2.2.1 (a + 1) (by omega)
  have none_ : (∀ j, j < m → E j ≠ 300 * a + b) → post (-1) := fun hz => h2 (fun a' b' ha' hb' ea' eb' j hj => by
    rw [← nI_inj (n := n) (by omega) ha ha' ea', ← nI_inj (n := n) (by omega) hb hb' eb']
    exact hz j hj)
  refine ⟨vp_in_nI (by omega) (by omega), ?_⟩
  refine pk_le (F (a + 1)) r (fun hr => none_ (fun j hj e => ?_)) (fun hr => ?_) rfl rfl (by omega) (by omega)
  · have q1 := (f2.2 j hj).mpr (by omega)
    have q2 : ¬ j < r := fun z => by have := (r2 j hj).mp z; omega
    omega
  · refine ⟨vp_in_nI (by omega) (by omega), ?_⟩
    rw [nI_clamp (by omega)]
    show (¬ aI E r = nI a * (300 : Int32) + nI b → _) ∧ (aI E r = nI a * (300 : Int32) + nI b → _)
    rw [key2]
    have hl := h.lt (j := r) (by omega)
    have hq : (aI E r = nI (300 * a + b)) ↔ E r = 300 * a + b := nI_eq (by omega) (by omega)
    rw [hq]
    refine ⟨fun hne => none_ (fun j hj e => ?_), fun he => h1 a b r ha hb rfl rfl (by omega) he⟩
    have q2 : ¬ j < r := fun z => by have := (r2 j hj).mp z; omega
    have q3 : ¬ E r < 300 * a + b := fun z => by have := (r2 r (by omega)).mpr z; omega
    by_cases q : j = r
    · rw [q] at e; exact hne e
    · have := h.2.1 r j (by omega) hj
      omega
/-- the signed cost, as the abstract table has it -/
def lkC (n : Nat) (Cs : Nat → Nat → Int32) (x1 x2 v : Int32) : Prop := (∀ a b, a < n → b < n → x1 = nI a → x2 = nI b → v = Cs a b) ∧ ((¬ isN n x1 ∨ ¬ isN n x2) → v = 0)
theorem signedCost_s {N n m : Nat} {E F : Nat → Nat} {vC : Nat → Int32} {Cs : Nat → Nat → Int32} {x1 x2 : Int32} {post : Int32 → Prop} (h : RT n m E F vC Cs) (hN : 4000 < N) (hp : ∀ v, lkC n Cs x1 x2 v → post v) : w_X1_signedCost N (nI n) (aI E) vC (aI F) x1 x2 post := by
  obtain ⟨n1, n2, n3⟩ := h.1
  unfold w_X1_signedCost
  refine find_s h hN (fun a b j ha hb ea eb hj e => ⟨fun _ => ⟨vp_in_nI (by omega) (by omega), ?_⟩, fun z => ?_⟩) (fun hz => ⟨fun z => absurd rfl z, fun _ => hp 0 ⟨fun a b ha hb ea eb => ?_, fun _ => rfl⟩⟩)
  · rw [nI_clamp (by omega)]
    have q := (h.2.2.2.1 j hj).2.2.1
    have d1 : E j / 300 = a := by omega
    have d2 : E j % 300 = b := by omega
    rw [d1, d2] at q
    refine hp _ ⟨fun a' b' ha' hb' ea' eb' => ?_, fun hh => ?_⟩
    · rw [← nI_inj (n := n) (by omega) ha ha' (ea.symm.trans ea'), ← nI_inj (n := n) (by omega) hb hb' (eb.symm.trans eb')]
      exact q
    · rcases hh with hh | hh
      · exact absurd ⟨a, ha, ea⟩ hh
      · exact absurd ⟨b, hb, eb⟩ hh
  · exfalso
    have : (nI j).toInt = (-1 : Int32).toInt := by rw [z]
    rw [nI_toInt (by omega)] at this
    have h1 : (-1 : Int32).toInt = -1 := by decide
    omega
  · by_cases hc : Cs a b = 0
    · exact hc.symm
    · obtain ⟨j, hj, e⟩ := h.2.2.2.2 a b ha hb hc
      exact absurd e (hz a b ha hb ea eb j hj)
theorem ne_m1 {j : Nat} (h : j < 2 ^ 31) : ¬ nI j = (-1 : Int32) := fun z => by
  have : (nI j).toInt = (-1 : Int32).toInt := by rw [z]
  rw [nI_toInt (by omega)] at this
  have h1 : (-1 : Int32).toInt = -1 := by decide
  omega
