/-! the reference's table of roads -/
def MT (n k : Nat) (Lo Hi cC cZ : Nat → Nat) (Cs : Nat → Nat → Int32) : Prop :=
  (1 ≤ n ∧ n ≤ 300 ∧ k ≤ 2000) ∧ (∀ i j, i < j → j < k → 300 * Lo i + Hi i < 300 * Lo j + Hi j) ∧
  (∀ r, r < k → Lo r < Hi r ∧ Hi r < n ∧ 1 ≤ cC r ∧ cC r ≤ 1000000000 ∧ cZ r ≤ 1 ∧ Cs (Lo r) (Hi r) = if cZ r = 0 then nI (cC r) else -nI (cC r)) ∧
  (∀ a b, a < b → b < n → Cs a b ≠ 0 → ∃ r, r < k ∧ Lo r = a ∧ Hi r = b)
theorem MT.inj {n k : Nat} {Lo Hi cC cZ : Nat → Nat} {Cs : Nat → Nat → Int32} (h : MT n k Lo Hi cC cZ Cs) {i j : Nat} (hi : i < k) (hj : j < k) (e1 : Lo i = Lo j) (e2 : Hi i = Hi j) : i = j := by
  rcases Nat.lt_trichotomy i j with q | q | q
  · have := h.2.1 i j q hj; rw [e1, e2] at this; omega
  · exact q
  · have := h.2.1 j i q hi; rw [e1, e2] at this; omega
/-- the less and the greater of two, as ints -/
def mn (x1 x2 : Int32) : Int32 := if x2 < x1 then x2 else x1
def mx (x1 x2 : Int32) : Int32 := if x1 < x2 then x2 else x1
theorem mn_nI {a b : Nat} (ha : a < 2 ^ 31) (hb : b < 2 ^ 31) : mn (nI a) (nI b) = nI (min a b) := by
  unfold mn
  by_cases h : b < a
  · rw [if_pos ((nI_ltI hb ha).mpr h), Nat.min_eq_right (by omega)]
  · rw [if_neg (fun z => h ((nI_ltI hb ha).mp z)), Nat.min_eq_left (by omega)]
theorem mx_nI {a b : Nat} (ha : a < 2 ^ 31) (hb : b < 2 ^ 31) : mx (nI a) (nI b) = nI (max a b) := by
  unfold mx
  by_cases h : a < b
  · rw [if_pos ((nI_ltI ha hb).mpr h), Nat.max_eq_right (by omega)]
  · rw [if_neg (fun z => h ((nI_ltI ha hb).mp z)), Nat.max_eq_left (by omega)]
/-- is road r before the pair (as ints) -/
def bfI (Lo Hi : Nat → Nat) (u v : Int32) (r : Nat) : Prop := (nI (Lo r) = u ∧ ¬ v ≤ nI (Hi r)) ∨ (¬ nI (Lo r) = u ∧ ¬ u ≤ nI (Lo r))
theorem isBefore_s {N r : Nat} {Lo Hi : Nat → Nat} {u v : Int32} {post : Int32 → Prop} (hr : r < 2000) (h1 : bfI Lo Hi u v r → post 1) (h0 : ¬ bfI Lo Hi u v r → post 0) : w_X5_isBefore N (aI Lo) (aI Hi) (nI r) u v post := by
  unfold w_X5_isBefore
  rw [nI_clamp (by omega)]
  refine ⟨vp_in_nI hr (by omega), fun e => ⟨fun z => h0 ?_, fun z => h1 (Or.inl ⟨e, z⟩)⟩, fun e => ⟨fun z => h0 ?_, fun z => h1 (Or.inr ⟨e, z⟩)⟩⟩
  · rintro (q | q)
    · exact q.2 z
    · exact q.1 e
  · rintro (q | q)
    · exact e q.1
    · exact q.2 z
/-- before is monotone: an earlier road is before, if a later one is -/
theorem bfI_mono {n k : Nat} {Lo Hi cC cZ : Nat → Nat} {Cs : Nat → Nat → Int32} (h : MT n k Lo Hi cC cZ Cs) {u v : Int32} {i j : Nat} (hij : i ≤ j) (hj : j < k) (hb : bfI Lo Hi u v j) : bfI Lo Hi u v i := by
  obtain ⟨n1, n2, n3⟩ := h.1
  by_cases he : i = j
  · rw [he]; exact hb
  have hi : i < k := by omega
  have o := h.2.1 i j (by omega) hj
  have li := h.2.2.1 i hi
  have lj := h.2.2.1 j hj
  have hlo : Lo i ≤ Lo j := by omega
  rcases hb with ⟨e, z⟩ | ⟨e, z⟩
  · by_cases c : Lo i = Lo j
    · refine Or.inl ⟨by rw [c]; exact e, fun w => z (Int32.le_trans w (nI_le (by omega) (by omega)))⟩
    · refine Or.inr ⟨fun w => c (nI_inj (n := 300) (by omega) (by omega) (by omega) (w.trans e.symm)), fun w => ?_⟩
      rw [← e, nI_leI (by omega) (by omega)] at w
      omega
  · have hz : nI (Lo j) < u := Int32.not_le.mp z
    have hlt : nI (Lo i) < u := Int32.lt_of_le_of_lt (nI_le hlo (by omega)) hz
    exact Or.inr ⟨fun w => Int32.lt_irrefl (a := u) (by rw [← w] at hlt ⊢; exact hlt), fun w => Int32.lt_irrefl (a := u) (Int32.lt_of_le_of_lt w hlt)⟩
theorem mplace_l {N n k : Nat} {Lo Hi cC cZ : Nat → Nat} {Cs : Nat → Nat → Int32} {x1 x2 : Int32} {post : Int32 → Prop} (h : MT n k Lo Hi cC cZ Cs) (hp : ∀ r, r ≤ k → (∀ j, j < k → (j < r ↔ bfI Lo Hi (mn x1 x2) (mx x1 x2) j)) → post (nI r)) : ∀ (t a b : Nat), a ≤ b → b ≤ k → b - a < t → (∀ j, j < a → bfI Lo Hi (mn x1 x2) (mx x1 x2) j) → (∀ j, b ≤ j → j < k → ¬ bfI Lo Hi (mn x1 x2) (mx x1 x2) j) → w_X5_placeOf_b8 N (aI Lo) (aI Hi) x1 x2 post t (nI a) (nI b) := by
  obtain ⟨n1, n2, n3⟩ := h.1
  intro t
  induction t with
  | zero => intro a b _ _ q; omega
  | succ t ih =>
    intro a b h1 h2 h3 h4 h5
    show w_X5_placeOf_b8_B N (aI Lo) (aI Hi) x1 x2 post _ (nI a) (nI b)
    unfold w_X5_placeOf_b8_B
    refine pk_le b a (fun q => ?_) (fun q => ?_)
    · have e : a = b := by omega
      subst e
      refine hp a h2 (fun j hj => ⟨fun z => h4 j z, fun z => ?_⟩)
      by_cases c : j < a
      · exact c
      · exact absurd z (h5 j (by omega) hj)
    · intro mid hmid
      have e : mid = nI ((a + b) / 2) := by
        rw [hmid, nI_add, show (2 : Int32) = nI 2 from rfl, pk_div (by omega) (by omega) (by omega)]
      subst e
      refine isBefore_s (by omega) (fun hb => ⟨fun z => absurd z (by decide), fun _ x hx => ?_⟩) (fun hb => ⟨fun _ => ?_, fun z => absurd rfl z⟩)
      · have e : x = nI ((a + b) / 2 + 1) := by rw [hx]; exact nI_1 _
        subst e
        exact ih ((a + b) / 2 + 1) b (by omega) h2 (by omega) (fun j hj => bfI_mono h (by omega) (by omega) hb) h5
      · refine ih a ((a + b) / 2) (by omega) (by omega) (by omega) h4 (fun j q1 q2 z => hb (bfI_mono h q1 q2 z))
theorem mplace_s {N n k : Nat} {Lo Hi cC cZ : Nat → Nat} {Cs : Nat → Nat → Int32} {x1 x2 : Int32} {post : Int32 → Prop} (h : MT n k Lo Hi cC cZ Cs) (hN : 4000 < N) (hp : ∀ r, r ≤ k → (∀ j, j < k → (j < r ↔ bfI Lo Hi (mn x1 x2) (mx x1 x2) j)) → post (nI r)) : w_X5_placeOf N (nI k) (aI Lo) (aI Hi) x1 x2 post :=
  mplace_l h hp N 0 k (Nat.zero_le _) (Nat.le_refl _) (by have := h.1.2.2; omega) (fun j hj => by omega) (fun j a b => by omega)
theorem mfind_s {N n k : Nat} {Lo Hi cC cZ : Nat → Nat} {Cs : Nat → Nat → Int32} {x1 x2 : Int32} {post : Int32 → Prop} (h : MT n k Lo Hi cC cZ Cs) (hN : 4000 < N) (h1 : ∀ r, r < k → nI (Lo r) = mn x1 x2 → nI (Hi r) = mx x1 x2 → post (nI r)) (h2 : (∀ r, r < k → ¬ (nI (Lo r) = mn x1 x2 ∧ nI (Hi r) = mx x1 x2)) → post (-1)) : w_X5_find N (nI k) (aI Lo) (aI Hi) x1 x2 post := by
  obtain ⟨n1, n2, n3⟩ := h.1
  unfold w_X5_find
  refine mplace_s h hN (fun r r1 r2 => ?_)
  have none_ : ¬ (r < k ∧ nI (Lo r) = mn x1 x2 ∧ nI (Hi r) = mx x1 x2) → post (-1) := fun hz => h2 (fun j hj e => by
    have c1 : ¬ bfI Lo Hi (mn x1 x2) (mx x1 x2) j := by
      rintro (q | q)
      · exact q.2 (by rw [e.2]; exact Int32.le_refl _)
      · exact q.1 e.1
    have c2 : ¬ j < r := fun z => c1 ((r2 j hj).mp z)
    by_cases c3 : j = r
    · subst c3; exact hz ⟨hj, e⟩
    · have c4 : ¬ bfI Lo Hi (mn x1 x2) (mx x1 x2) r := fun z => by have := (r2 r (by omega)).mpr z; omega
      apply c4
      have o := h.2.1 r j (by omega) hj
      have lr := h.2.2.1 r (by omega)
      have lj := h.2.2.1 j hj
      by_cases c5 : Lo r = Lo j
      · refine Or.inl ⟨by rw [c5]; exact e.1, fun w => ?_⟩
        rw [← e.2, nI_leI (by omega) (by omega)] at w
        omega
      · refine Or.inr ⟨fun w => c5 (nI_inj (n := 300) (by omega) (by omega) (by omega) (w.trans e.1.symm)), fun w => ?_⟩
        rw [← e.1, nI_leI (by omega) (by omega)] at w
        omega)
  refine pk_le k r (fun hr => none_ (fun z => by omega)) (fun hr => ⟨vp_in_nI (by omega) (by omega), ?_⟩)
  rw [nI_clamp (by omega)]
  exact ⟨fun z => none_ (fun y => z y.2.1), fun e1 => ⟨fun z => none_ (fun y => z y.2.2), fun e2 => h1 r hr e1 e2⟩⟩
/-- what find() finds, for nodes -/
theorem mfind_n {n k : Nat} {Lo Hi cC cZ : Nat → Nat} {Cs : Nat → Nat → Int32} (h : MT n k Lo Hi cC cZ Cs) {x1 x2 : Int32} {r : Nat} (hr : r < k) (e1 : nI (Lo r) = mn x1 x2) (e2 : nI (Hi r) = mx x1 x2) : (x1 = nI (Lo r) ∧ x2 = nI (Hi r)) ∨ (x1 = nI (Hi r) ∧ x2 = nI (Lo r)) := by
  unfold mn at e1
  unfold mx at e2
  have l := h.2.2.1 r hr
  by_cases c : x2 < x1
  · rw [if_pos c] at e1
    rw [if_neg (fun z => Int32.lt_irrefl (a := x1) (Int32.lt_trans z c))] at e2
    exact Or.inr ⟨e2.symm, e1.symm⟩
  · rw [if_neg c] at e1
    by_cases c2 : x1 < x2
    · rw [if_pos c2] at e2
      exact Or.inl ⟨e1.symm, e2.symm⟩
    · rw [if_neg c2] at e2
      have := nI_inj (n := 300) (by omega) (by have := h.1.2.1; omega) (by have := h.1.2.1; omega) (e1.trans e2.symm)
      omega
theorem mfind_of {n k : Nat} {Lo Hi cC cZ : Nat → Nat} {Cs : Nat → Nat → Int32} (h : MT n k Lo Hi cC cZ Cs) (hC : CS n Cs) {a b : Nat} (ha : a < n) (hb : b < n) (hc : Cs a b ≠ 0) : ∃ r, r < k ∧ nI (Lo r) = mn (nI a) (nI b) ∧ nI (Hi r) = mx (nI a) (nI b) ∧ Cs (Lo r) (Hi r) = Cs a b := by
  have n2 := h.1.2.1
  rw [mn_nI (by omega) (by omega), mx_nI (by omega) (by omega)]
  rcases Nat.lt_trichotomy a b with q | q | q
  · obtain ⟨r, hr, e1, e2⟩ := h.2.2.2 a b q hb hc
    exact ⟨r, hr, by rw [e1, Nat.min_eq_left (by omega)], by rw [e2, Nat.max_eq_right (by omega)], by rw [e1, e2]⟩
  · rw [q] at hc; exact absurd (hC.2.1 b) hc
  · obtain ⟨r, hr, e1, e2⟩ := h.2.2.2 b a q ha (by rw [hC.1 b a]; exact hc)
    exact ⟨r, hr, by rw [e1, Nat.min_eq_right (by omega)], by rw [e2, Nat.max_eq_left (by omega)], by rw [e1, e2, hC.1 b a]⟩
/-- find() at nodes a, b: the road, or none -/
theorem mfind_ab {N n k : Nat} {Lo Hi cC cZ : Nat → Nat} {Cs : Nat → Nat → Int32} {x1 x2 : Int32} {post : Int32 → Prop} (h : MT n k Lo Hi cC cZ Cs) (hC : CS n Cs) (hN : 4000 < N) (h1 : ∀ r a b, r < k → a < n → b < n → x1 = nI a → x2 = nI b → Cs a b ≠ 0 → ((a = Lo r ∧ b = Hi r) ∨ (a = Hi r ∧ b = Lo r)) → Cs a b = (if cZ r = 0 then nI (cC r) else -nI (cC r)) → post (nI r)) (h2 : (∀ a b, a < n → b < n → x1 = nI a → x2 = nI b → Cs a b = 0) → post (-1)) : w_X5_find N (nI k) (aI Lo) (aI Hi) x1 x2 post := by
  obtain ⟨n1, n2, n3⟩ := h.1
  refine mfind_s h hN (fun r hr e1 e2 => ?_) (fun hz => h2 (fun a b ha hb ea eb => ?_))
  · have l := h.2.2.1 r hr
    have hcn : Cs (Lo r) (Hi r) ≠ 0 := by
      rw [l.2.2.2.2.2]
      by_cases c : cZ r = 0
      · rw [if_pos c]; exact nI_ne0' l.2.2.1 l.2.2.2.1
      · rw [if_neg c]; exact neg_ne0 (nI_ne0' l.2.2.1 l.2.2.2.1)
    rcases mfind_n h hr e1 e2 with ⟨q1, q2⟩ | ⟨q1, q2⟩
    · exact h1 r (Lo r) (Hi r) hr (by omega) l.2.1 q1 q2 hcn (Or.inl ⟨rfl, rfl⟩) l.2.2.2.2.2
    · exact h1 r (Hi r) (Lo r) hr l.2.1 (by omega) q1 q2 (by rw [hC.1]; exact hcn) (Or.inr ⟨rfl, rfl⟩) (by rw [hC.1]; exact l.2.2.2.2.2)
  · by_cases c : Cs a b = 0
    · exact c
    · obtain ⟨r, hr, e1, e2, -⟩ := mfind_of h hC ha hb c
      exact absurd ⟨by rw [ea, eb]; exact e1, by rw [ea, eb]; exact e2⟩ (hz r hr)
theorem m1_lt : (-1 : Int32) < 0 := by decide
theorem mcost_s {N n k : Nat} {Lo Hi cC cZ : Nat → Nat} {Cs : Nat → Nat → Int32} {x1 x2 : Int32} {post : Int32 → Prop} (h : MT n k Lo Hi cC cZ Cs) (hC : CS n Cs) (hN : 4000 < N) (hp : ∀ v, lkC n Cs x1 x2 v → post v) : w_X5_cost N (nI k) (aI Lo) (aI Hi) (aI cC) (aI cZ) x1 x2 post := by
  obtain ⟨n1, n2, n3⟩ := h.1
  unfold w_X5_cost
  refine mfind_ab h hC hN (fun r a b hr ha hb ea eb hc hab hv => ⟨fun _ => ⟨vp_in_nI (by omega) (by omega), ?_⟩, fun z => absurd (nI_pos' (by omega)) z⟩) (fun hz => ⟨fun z => absurd z (by decide), fun _ => hp 0 ⟨fun a b ha hb ea eb => (hz a b ha hb ea eb).symm, fun _ => rfl⟩⟩)
  have l := h.2.2.1 r hr
  rw [nI_clamp (by omega)]
  have lk : ∀ v, v = Cs a b → lkC n Cs x1 x2 v := fun v e => ⟨fun a' b' ha' hb' ea' eb' => by
    rw [← nI_inj (n := n) (by omega) ha ha' (ea.symm.trans ea'), ← nI_inj (n := n) (by omega) hb hb' (eb.symm.trans eb')]
    exact e, fun hh => by
    rcases hh with hh | hh
    · exact absurd ⟨a, ha, ea⟩ hh
    · exact absurd ⟨b, hb, eb⟩ hh⟩
  refine pk_eq (cZ r) 0 (fun c => hp _ (lk _ ?_)) (fun c => hp _ (lk _ ?_)) rfl rfl (by omega)
  · rw [hv, if_pos c]; rfl
  · rw [hv, if_neg c]; rfl
theorem aI_updZ (f : Nat → Nat) (k : Nat) (x : Nat) (hx : x ≤ 1) : upd (aI f) k (vp_nar .boolean (nI x)) = aI (va_up f k x) := by
  have : vp_nar .boolean (nI x) = nI x := by
    rcases (show x = 0 ∨ x = 1 by omega) with rfl | rfl <;> rfl
  rw [this, aI_upd]
theorem sgn0 {c z : Nat} (h1 : 1 ≤ c) (h2 : c ≤ 1000000000) (hz : z ≤ 1) : (if 0 ≤ (if z = 0 then nI c else -nI c) then (0 : Int32) else 1) = nI z := by
  rcases (show z = 0 ∨ z = 1 by omega) with rfl | rfl
  · rw [if_pos rfl, if_pos (nI_pos' (by omega))]; rfl
  · rw [if_neg (by decide : ¬ (1 : Nat) = 0)]
    have : ¬ (0 : Int32) ≤ -nI c := by
      rw [Int32.le_iff_toInt_le, sb_negT (by omega)]
      have : (0 : Int32).toInt = 0 := by decide
      omega
    rw [if_neg this]; rfl
theorem mclose_s {N n k : Nat} {Lo Hi cC cZ : Nat → Nat} {Cs : Nat → Nat → Int32} {x1 x2 x3 : Int32} {post : Int32 → (Nat → Int32) → Prop} (h : MT n k Lo Hi cC cZ Cs) (hC : CS n Cs) (hN : 4000 < N) (h3 : x3 = 0 ∨ x3 = 1) (hp : ∀ cZ', MT n k Lo Hi cC cZ' (clF n Cs x1 x2 x3).2 → post (clF n Cs x1 x2 x3).1 (aI cZ')) : w_X5_close N (nI k) (aI Lo) (aI Hi) (aI cZ) x1 x2 x3 post := by
  obtain ⟨n1, n2, n3⟩ := h.1
  unfold w_X5_close
  have bad : ¬ (isN n x1 ∧ isN n x2 ∧ Cs x1.toNatClampNeg x2.toNatClampNeg ≠ 0 ∧ (if 0 ≤ Cs x1.toNatClampNeg x2.toNatClampNeg then (0 : Int32) else 1) ≠ x3) → post 0 (aI cZ) := fun hb => by
    unfold clF at hp
    rw [if_neg hb] at hp
    exact hp cZ h
  refine mfind_ab h hC hN (fun r a b hr ha hb ea eb hc hab hv => ⟨fun z => absurd z (nI_pos (by omega)), fun _ => ⟨vp_in_nI (by omega) (by omega), ?_⟩⟩) (fun hz => ⟨fun _ => bad (fun z => ?_), fun z => absurd m1_lt z⟩)
  · have l := h.2.2.1 r hr
    rw [nI_clamp (by omega)]
    subst ea eb
    have es : (if 0 ≤ Cs a b then (0 : Int32) else 1) = nI (cZ r) := by rw [hv]; exact sgn0 l.2.2.1 l.2.2.2.1 l.2.2.2.2.1
    refine ⟨fun hne => ?_, fun he => bad (fun z => ?_)⟩
    · have hgood : isN n (nI a) ∧ isN n (nI b) ∧ Cs (nI a).toNatClampNeg (nI b).toNatClampNeg ≠ 0 ∧ (if 0 ≤ Cs (nI a).toNatClampNeg (nI b).toNatClampNeg then (0 : Int32) else 1) ≠ x3 := by
        rw [nI_clamp (by omega), nI_clamp (by omega)]
        exact ⟨⟨a, ha, rfl⟩, ⟨b, hb, rfl⟩, hc, by rw [es]; exact hne⟩
      unfold clF at hp
      rw [if_pos hgood, nI_clamp (by omega), nI_clamp (by omega)] at hp
      obtain ⟨z3, hz3, e3⟩ : ∃ z3 : Nat, z3 ≤ 1 ∧ x3 = nI z3 := by
        rcases h3 with h3 | h3
        · exact ⟨0, by omega, h3⟩
        · exact ⟨1, by omega, h3⟩
      subst e3
      have hzz : z3 ≠ cZ r := fun z => hne (by rw [z]; rfl)
      rw [aI_updZ _ _ _ hz3]
      have setAt : ∀ u v, setC Cs a b (-Cs a b) u v = if (u = Lo r ∧ v = Hi r) ∨ (u = Hi r ∧ v = Lo r) then -Cs a b else Cs u v := by
        intro u v
        by_cases q : (u = Lo r ∧ v = Hi r) ∨ (u = Hi r ∧ v = Lo r)
        · rw [if_pos q]
          rcases hab with ⟨p1, p2⟩ | ⟨p1, p2⟩ <;> rcases q with ⟨q1, q2⟩ | ⟨q1, q2⟩ <;> rw [q1, q2, ← p1, ← p2]
          · exact setC_1 _ _ _ _
          · exact setC_2 _ _ _ _
          · exact setC_2 _ _ _ _
          · exact setC_1 _ _ _ _
        · rw [if_neg q]
          refine setC_ne (fun w => q ?_) (fun w => q ?_)
          · rcases hab with ⟨p1, p2⟩ | ⟨p1, p2⟩
            · exact Or.inl ⟨w.1.trans p1, w.2.trans p2⟩
            · exact Or.inr ⟨w.1.trans p1, w.2.trans p2⟩
          · rcases hab with ⟨p1, p2⟩ | ⟨p1, p2⟩
            · exact Or.inr ⟨w.1.trans p2, w.2.trans p1⟩
            · exact Or.inl ⟨w.1.trans p2, w.2.trans p1⟩
      refine hp _ ⟨h.1, h.2.1, fun t ht => ?_, fun u v huv hv' hz => ?_⟩
      · obtain ⟨g1, g2, g3, g4, g5, g6⟩ := h.2.2.1 t ht
        refine ⟨g1, g2, g3, g4, ?_⟩
        show va_up cZ r z3 t ≤ 1 ∧ setC Cs a b (-Cs a b) (Lo t) (Hi t) = if va_up cZ r z3 t = 0 then nI (cC t) else -nI (cC t)
        rw [setAt]
        by_cases c : t = r
        · subst c
          rw [va_up_self, if_pos (Or.inl ⟨rfl, rfl⟩), hv]
          refine ⟨hz3, ?_⟩
          rcases (show (z3 = 0 ∧ cZ t = 1) ∨ (z3 = 1 ∧ cZ t = 0) by omega) with ⟨w1, w2⟩ | ⟨w1, w2⟩
          · rw [w1, w2, if_pos rfl, if_neg (by decide : ¬ (1 : Nat) = 0)]; exact Int32.neg_neg
          · rw [w1, w2, if_pos rfl, if_neg (by decide : ¬ (1 : Nat) = 0)]
        · rw [va_up_ne _ _ c, if_neg (fun w => ?_)]
          · exact ⟨g5, g6⟩
          · rcases w with ⟨w1, w2⟩ | ⟨w1, w2⟩
            · exact c (h.inj ht hr w1 w2)
            · omega
      · replace hz : setC Cs a b (-Cs a b) u v ≠ 0 := hz
        rw [setAt] at hz
        by_cases c : (u = Lo r ∧ v = Hi r) ∨ (u = Hi r ∧ v = Lo r)
        · rcases c with ⟨c1, c2⟩ | ⟨c1, c2⟩
          · exact ⟨r, hr, c1.symm, c2.symm⟩
          · omega
        · rw [if_neg c] at hz
          exact h.2.2.2 u v huv hv' hz
    · rw [nI_clamp (by omega), nI_clamp (by omega)] at z
      exact z.2.2.2 (by rw [es]; exact he)
  · obtain ⟨⟨a, ha, ea⟩, ⟨b, hb, eb⟩, hc, -⟩ := z
    apply hc
    rw [ea, eb, nI_clamp (by omega), nI_clamp (by omega)]
    exact hz a b ha hb ea eb
