/-! the reference's road() -/
def shf (A : Nat → Nat) (k kk : Nat) : Nat → Nat := fun j => if kk < j ∧ j ≤ k then A (j - 1) else A j
theorem shf_0 (A : Nat → Nat) (k : Nat) : shf A k k = A := funext (fun j => if_neg (by omega))
theorem shf_at (A : Nat → Nat) {k kk : Nat} (h : kk ≤ k) (h0 : 0 < kk) : shf A k kk (kk - 1) = A (kk - 1) := if_neg (by omega)
theorem shf_up (A : Nat → Nat) {k kk : Nat} (h : kk ≤ k) (h0 : 0 < kk) : va_up (shf A k kk) kk (A (kk - 1)) = shf A k (kk - 1) := by
  funext j
  unfold va_up shf
  by_cases h1 : j = kk
  · rw [if_pos h1, if_pos (by omega), h1]
  · rw [if_neg h1]
    by_cases h2 : kk < j ∧ j ≤ k
    · rw [if_pos h2, if_pos (by omega)]
    · rw [if_neg h2, if_neg (by omega)]
theorem shf_ins (A : Nat → Nat) {k at_ : Nat} (v : Nat) (h : at_ ≤ k) : va_up (shf A k at_) at_ v = ins A at_ k v := by
  funext j
  unfold va_up shf ins
  by_cases h1 : j = at_
  · rw [if_pos h1, if_neg (by omega), if_pos h1]
  · rw [if_neg h1]
    by_cases h2 : j < at_
    · rw [if_pos h2, if_neg (by omega)]
    · rw [if_neg h2, if_neg h1]
      by_cases h3 : j ≤ k
      · rw [if_pos h3, if_pos (by omega)]
      · rw [if_neg h3, if_neg (by omega)]
theorem mroad_l {N k at_ lo hi x : Nat} {x1 x2 : Int32} {Lo Hi cC cZ : Nat → Nat} {post : Int32 → Int32 → (Nat → Int32) → (Nat → Int32) → (Nat → Int32) → (Nat → Int32) → Prop} (hk : k < 2000) (hat : at_ ≤ k) (hz : ∀ j, j < k → cZ j ≤ 1) (e1 : mn x1 x2 = nI lo) (e2 : mx x1 x2 = nI hi) (hp : post (nI (k + 1)) (nI (k + 1)) (aI (ins Lo at_ k lo)) (aI (ins Hi at_ k hi)) (aI (ins cC at_ k x)) (aI (ins cZ at_ k 0))) : ∀ (t kk : Nat), at_ ≤ kk → kk ≤ k → kk - at_ < t → w_X5_road_b90 N x1 x2 (nI x) post t (nI k) (aI (shf Lo k kk)) (aI (shf Hi k kk)) (aI (shf cC k kk)) (aI (shf cZ k kk)) (nI at_) (nI kk) := by
  intro t
  induction t with
  | zero => intro kk _ _ h; omega
  | succ t ih =>
    intro kk h1 h2 h3
    show w_X5_road_b90_B N x1 x2 (nI x) post _ (nI k) (aI (shf Lo k kk)) (aI (shf Hi k kk)) (aI (shf cC k kk)) (aI (shf cZ k kk)) (nI at_) (nI kk)
    unfold w_X5_road_b90_B
    refine pk_le kk at_ (fun q => ⟨vp_in_nI (by omega) (by omega), ?_⟩) (fun q => ?_)
    · have e : kk = at_ := by omega
      subst e
      rw [nI_clamp (by omega)]
      show post (nI k + (1 : Int32)) (nI k + (1 : Int32)) (upd _ _ (mn x1 x2)) (upd _ _ (mx x1 x2)) _ (upd (aI (shf cZ k kk)) kk (vp_nar .boolean (nI 0)))
      rw [e1, e2, aI_upd, aI_upd, aI_upd, aI_updZ _ _ _ (by omega), shf_ins _ _ hat, shf_ins _ _ hat, shf_ins _ _ hat, shf_ins _ _ hat, show nI k + (1 : Int32) = nI (k + 1) from nI_1 k]
      exact hp
    · have em : nI kk - (1 : Int32) = nI (kk - 1) := pk_sub (a := kk) (b := 1) (by omega)
      rw [em, nI_clamp (by omega), nI_clamp (by omega)]
      refine ⟨vp_in_nI (by omega) (by omega), vp_in_nI (by omega) (by omega), fun y hy => ?_⟩
      have ey : y = nI (kk - 1) := by rw [hy]; exact sb_m1 (by omega)
      subst ey
      have g : ∀ A : Nat → Nat, aI (shf A k kk) (kk - 1) = nI (A (kk - 1)) := fun A => congrArg nI (shf_at A h2 (by omega))
      rw [g Lo, g Hi, g cC, g cZ, aI_upd, aI_upd, aI_upd, aI_updZ _ _ _ (hz (kk - 1) (by omega)), shf_up Lo h2 (by omega), shf_up Hi h2 (by omega), shf_up cC h2 (by omega), shf_up cZ h2 (by omega)]
      exact ih (kk - 1) (by omega) (by omega) (by omega)
theorem bfI_n {n k lo hi j : Nat} {Lo Hi cC cZ : Nat → Nat} {Cs : Nat → Nat → Int32} (h : MT n k Lo Hi cC cZ Cs) (hj : j < k) (hlo : lo < n) (hhi : hi < n) : bfI Lo Hi (nI lo) (nI hi) j ↔ 300 * Lo j + Hi j < 300 * lo + hi := by
  have n2 := h.1.2.1
  have l := h.2.2.1 j hj
  unfold bfI
  rw [nI_eq (by omega) (by omega), nI_leI (by omega) (by omega), nI_leI (by omega) (by omega)]
  omega
theorem MT.setOld {n k r a b : Nat} {Lo Hi cC cZ : Nat → Nat} {Cs : Nat → Nat → Int32} (h : MT n k Lo Hi cC cZ Cs) (hr : r < k) (hab : (a = Lo r ∧ b = Hi r) ∨ (a = Hi r ∧ b = Lo r)) {c : Nat} (hc : 1 ≤ c) (hc2 : c ≤ 1000000000) : MT n k Lo Hi (va_up cC r c) cZ (setC Cs a b (if cZ r = 0 then nI c else -nI c)) := by
  have setAt : ∀ u v (y : Int32), setC Cs a b y u v = if (u = Lo r ∧ v = Hi r) ∨ (u = Hi r ∧ v = Lo r) then y else Cs u v := by
    intro u v y
    by_cases q : (u = Lo r ∧ v = Hi r) ∨ (u = Hi r ∧ v = Lo r)
    · rw [if_pos q]
      rcases hab with ⟨p1, p2⟩ | ⟨p1, p2⟩ <;> rcases q with ⟨q1, q2⟩ | ⟨q1, q2⟩ <;> rw [q1, q2, ← p1, ← p2]
      · exact setC_1 _ _ _ _
      · exact setC_2 _ _ _ _
      · exact setC_2 _ _ _ _
      · exact setC_1 _ _ _ _
    · rw [if_neg q]
      refine setC_ne (fun w => q ?_) (fun w => q ?_)
      · rcases hab with ⟨p1, p2⟩ | ⟨p1, p2⟩
        · exact Or.inl ⟨w.1.trans p1, w.2.trans p2⟩
        · exact Or.inr ⟨w.1.trans p1, w.2.trans p2⟩
      · rcases hab with ⟨p1, p2⟩ | ⟨p1, p2⟩
        · exact Or.inr ⟨w.1.trans p2, w.2.trans p1⟩
        · exact Or.inl ⟨w.1.trans p2, w.2.trans p1⟩
  refine ⟨h.1, h.2.1, fun t ht => ?_, fun u v huv hv' hz => ?_⟩
  · obtain ⟨g1, g2, g3, g4, g5, g6⟩ := h.2.2.1 t ht
    rw [setAt]
    by_cases q : t = r
    · subst q
      rw [va_up_self, if_pos (Or.inl ⟨rfl, rfl⟩)]
      exact ⟨g1, g2, hc, hc2, g5, rfl⟩
    · rw [va_up_ne _ _ q, if_neg (fun w => ?_)]
      · exact ⟨g1, g2, g3, g4, g5, g6⟩
      · have l := h.2.2.1 r hr
        rcases w with ⟨w1, w2⟩ | ⟨w1, w2⟩
        · exact q (h.inj ht hr w1 w2)
        · omega
  · rw [setAt] at hz
    have l := h.2.2.1 r hr
    by_cases c : (u = Lo r ∧ v = Hi r) ∨ (u = Hi r ∧ v = Lo r)
    · rcases c with ⟨c1, c2⟩ | ⟨c1, c2⟩
      · exact ⟨r, hr, c1.symm, c2.symm⟩
      · omega
    · rw [if_neg c] at hz
      exact h.2.2.2 u v huv hv' hz
theorem MT.addNew {n k r a b lo hi c : Nat} {Lo Hi cC cZ : Nat → Nat} {Cs : Nat → Nat → Int32} (h : MT n k Lo Hi cC cZ Cs) (hk : k < 2000) (hr : r ≤ k) (hlh : lo < hi) (hhi : hi < n) (hab : (a = lo ∧ b = hi) ∨ (a = hi ∧ b = lo)) (h0 : Cs lo hi = 0) (hc : 1 ≤ c) (hc2 : c ≤ 1000000000) (r2 : ∀ j, j < k → (j < r ↔ 300 * Lo j + Hi j < 300 * lo + hi)) : MT n (k + 1) (ins Lo r k lo) (ins Hi r k hi) (ins cC r k c) (ins cZ r k 0) (setC Cs a b (nI c)) := by
  obtain ⟨n1, n2, n3⟩ := h.1
  have insL : ∀ (A : Nat → Nat) (v : Nat) j, j < r → ins A r k v j = A j := fun A v j hj => by unfold ins; rw [if_pos hj]
  have insM : ∀ (A : Nat → Nat) (v : Nat), ins A r k v r = v := fun A v => by unfold ins; rw [if_neg (by omega), if_pos rfl]
  have insR : ∀ (A : Nat → Nat) (v : Nat) j, r < j → j ≤ k → ins A r k v j = A (j - 1) := fun A v j hj hj2 => by unfold ins; rw [if_neg (by omega), if_neg (by omega), if_pos hj2]
  have nk : ∀ j, j < k → 300 * Lo j + Hi j ≠ 300 * lo + hi := fun j hj e => by
    obtain ⟨g1, g2, g3, g4, g5, g6⟩ := h.2.2.1 j hj
    have d1 : Lo j = lo := by omega
    have d2 : Hi j = hi := by omega
    rw [d1, d2, h0] at g6
    by_cases q : cZ j = 0
    · rw [if_pos q] at g6; exact nI_ne0' g3 g4 g6.symm
    · rw [if_neg q] at g6; exact neg_ne0 (nI_ne0' g3 g4) g6.symm
  have sOld : ∀ j, j < k → setC Cs a b (nI c) (Lo j) (Hi j) = Cs (Lo j) (Hi j) := fun j hj => by
    have q := nk j hj
    obtain ⟨g1, g2, -⟩ := h.2.2.1 j hj
    refine setC_ne (fun w => ?_) (fun w => ?_)
    · rcases hab with p | p
      · exact q (by omega)
      · omega
    · rcases hab with p | p
      · omega
      · exact q (by omega)
  have sNew : setC Cs a b (nI c) lo hi = nI c := by
    rcases hab with ⟨p1, p2⟩ | ⟨p1, p2⟩
    · rw [p1, p2]; exact setC_1 _ _ _ _
    · rw [p1, p2]; exact setC_2 _ _ _ _
  refine ⟨⟨n1, n2, by omega⟩, fun i j hij hj => ?_, fun t ht => ?_, fun u v huv hv' hz => ?_⟩
  · rcases Nat.lt_trichotomy i r with q | q | q
    · rw [insL Lo _ i q, insL Hi _ i q]
      rcases Nat.lt_trichotomy j r with q' | q' | q'
      · rw [insL Lo _ j q', insL Hi _ j q']; exact h.2.1 i j hij (by omega)
      · rw [q', insM, insM]; exact (r2 i (by omega)).mp q
      · rw [insR Lo _ j q' (by omega), insR Hi _ j q' (by omega)]
        exact h.2.1 i (j - 1) (by omega) (by omega)
    · rw [q, insM, insM, insR Lo _ j (by omega) (by omega), insR Hi _ j (by omega) (by omega)]
      have c1 : ¬ 300 * Lo (j - 1) + Hi (j - 1) < 300 * lo + hi := fun z => by have := (r2 (j - 1) (by omega)).mpr z; omega
      have c2 := nk (j - 1) (by omega)
      omega
    · rw [insR Lo _ i q (by omega), insR Hi _ i q (by omega), insR Lo _ j (by omega) (by omega), insR Hi _ j (by omega) (by omega)]
      exact h.2.1 (i - 1) (j - 1) (by omega) (by omega)
  · rcases Nat.lt_trichotomy t r with q | q | q
    · rw [insL Lo _ t q, insL Hi _ t q, insL cC _ t q, insL cZ _ t q, sOld t (by omega)]
      exact h.2.2.1 t (by omega)
    · rw [q, insM, insM, insM, insM, sNew]
      exact ⟨hlh, hhi, hc, hc2, by omega, rfl⟩
    · rw [insR Lo _ t q (by omega), insR Hi _ t q (by omega), insR cC _ t q (by omega), insR cZ _ t q (by omega), sOld (t - 1) (by omega)]
      exact h.2.2.1 (t - 1) (by omega)
  · by_cases q : u = lo ∧ v = hi
    · exact ⟨r, by omega, by rw [insM]; exact q.1.symm, by rw [insM]; exact q.2.symm⟩
    · have e : setC Cs a b (nI c) u v = Cs u v := by
        refine setC_ne (fun w => ?_) (fun w => ?_)
        · rcases hab with p | p
          · exact q ⟨by omega, by omega⟩
          · omega
        · rcases hab with p | p
          · omega
          · exact q ⟨by omega, by omega⟩
      rw [e] at hz
      obtain ⟨j, hj, e1, e2⟩ := h.2.2.2 u v huv hv' hz
      by_cases c1 : j < r
      · exact ⟨j, by omega, by rw [insL Lo _ j c1]; exact e1, by rw [insL Hi _ j c1]; exact e2⟩
      · exact ⟨j + 1, by omega, by rw [insR Lo _ (j + 1) (by omega) (by omega)]; exact e1, by rw [insR Hi _ (j + 1) (by omega) (by omega)]; exact e2⟩
theorem sgnC {c z : Nat} {A : Type} {p q : A} (h1 : 1 ≤ c) (h2 : c ≤ 1000000000) (hz : z ≤ 1) : (if 0 ≤ (if z = 0 then nI c else -nI c) then p else q) = if z = 0 then p else q := by
  rcases (show z = 0 ∨ z = 1 by omega) with rfl | rfl
  · rw [if_pos rfl, if_pos (nI_pos' (by omega)), if_pos rfl]
  · rw [if_neg (by decide : ¬ (1 : Nat) = 0), if_neg (by decide : ¬ (1 : Nat) = 0)]
    have : ¬ (0 : Int32) ≤ -nI c := by
      rw [Int32.le_iff_toInt_le, sb_negT (by omega)]
      have : (0 : Int32).toInt = 0 := by decide
      omega
    rw [if_neg this]
theorem mroad_s {N n k : Nat} {Lo Hi cC cZ : Nat → Nat} {Cs : Nat → Nat → Int32} {x1 x2 x3 : Int32} {post : Int32 → Int32 → (Nat → Int32) → (Nat → Int32) → (Nat → Int32) → (Nat → Int32) → Prop} (h : MT n k Lo Hi cC cZ Cs) (hC : CS n Cs) (hN : 4000 < N) (hp : ∀ Lo' Hi' cC' cZ', MT n (rdF n k Cs x1 x2 x3).2.1 Lo' Hi' cC' cZ' (rdF n k Cs x1 x2 x3).2.2 → post (rdF n k Cs x1 x2 x3).1 (nI (rdF n k Cs x1 x2 x3).2.1) (aI Lo') (aI Hi') (aI cC') (aI cZ')) : w_X5_road N (nI n) (nI k) (aI Lo) (aI Hi) (aI cC) (aI cZ) x1 x2 x3 post := by
  obtain ⟨n1, n2, n3⟩ := h.1
  unfold w_X5_road
  have bad : ¬ (isN n x1 ∧ isN n x2 ∧ x1 ≠ x2) → post (-14) (nI k) (aI Lo) (aI Hi) (aI cC) (aI cZ) := fun hb => by
    rw [rdF_bad hb] at hp
    exact hp Lo Hi cC cZ h
  refine isNode_s (by omega) (fun a ha ea => ⟨fun z => absurd z (by decide), fun _ => ?_⟩) (fun hz => ⟨fun _ => bad (fun z => hz z.1), fun z => absurd rfl z⟩)
  refine isNode_s (by omega) (fun b hb eb => ⟨fun z => absurd z (by decide), fun _ => ?_⟩) (fun hz => ⟨fun _ => bad (fun z => hz z.2.1), fun z => absurd rfl z⟩)
  refine ⟨fun hne => ?_, fun he => bad (fun z => z.2.2 he)⟩
  subst ea eb
  have hab : a ≠ b := fun z => hne (by rw [z])
  rw [rdF_in n2 ha hb hab] at hp
  by_cases hc : x3 < 1 ∨ ¬ x3 ≤ 1000000000
  · rw [if_pos hc] at hp
    have p1 := hp Lo Hi cC cZ h
    exact ⟨fun _ => p1, fun q => ⟨fun q2 => hc.elim (fun z => absurd z q) (fun z => absurd q2 z), fun _ => p1⟩⟩
  · rw [if_neg hc] at hp
    have c1 : ¬ x3 < 1 := fun z => hc (Or.inl z)
    have c2 : x3 ≤ 1000000000 := by
      by_cases q : x3 ≤ 1000000000
      · exact q
      · exact absurd (Or.inr q) hc
    obtain ⟨c, hc1, hc2, ec⟩ := cost_of c1 c2
    subst ec
    refine ⟨fun z => absurd z c1, fun _ => ⟨fun _ => ?_, fun z => absurd c2 z⟩⟩
    refine mfind_ab h hC hN (fun r a' b' hr ha' hb' ea' eb' hcn hor hv => ?_) (fun hz => ⟨fun _ => ?_, fun z => absurd m1_lt z⟩)
    · have q1 := nI_inj (n := n) (by omega) ha ha' ea'
      have q2 := nI_inj (n := n) (by omega) hb hb' eb'
      subst q1 q2
      have l := h.2.2.1 r hr
      rw [if_neg hcn, hv, sgnC l.2.2.1 l.2.2.2.1 l.2.2.2.2.1] at hp
      refine ⟨fun z => absurd z (nI_pos (by omega)), fun _ => ⟨vp_in_nI (by omega) (by omega), ?_⟩⟩
      rw [nI_clamp (by omega), aI_upd]
      exact hp Lo Hi (va_up cC r c) cZ (h.setOld hr hor hc1 hc2)
    · have h0 := hz a b ha hb rfl rfl
      rw [if_pos h0] at hp
      by_cases hk : k < 2000
      · rw [if_pos hk] at hp
        refine ⟨fun _ => ?_, fun z => absurd ((nI_eq (a := k) (b := 2000) (by omega) (by omega)).mp z) (by omega)⟩
        refine mplace_s h hN (fun r r1 r2 => ?_)
        obtain ⟨lo, hi, e1, e2, hlh, hhi, hor⟩ : ∃ lo hi : Nat, mn (nI a) (nI b) = nI lo ∧ mx (nI a) (nI b) = nI hi ∧ lo < hi ∧ hi < n ∧ ((a = lo ∧ b = hi) ∨ (a = hi ∧ b = lo)) := by
          rw [mn_nI (by omega) (by omega), mx_nI (by omega) (by omega)]
          rcases Nat.lt_or_gt_of_ne hab with q | q
          · exact ⟨a, b, by rw [Nat.min_eq_left (by omega)], by rw [Nat.max_eq_right (by omega)], q, hb, Or.inl ⟨rfl, rfl⟩⟩
          · exact ⟨b, a, by rw [Nat.min_eq_right (by omega)], by rw [Nat.max_eq_left (by omega)], q, ha, Or.inr ⟨rfl, rfl⟩⟩
        rw [e1, e2] at r2
        have h00 : Cs lo hi = 0 := by
          rcases hor with ⟨p1, p2⟩ | ⟨p1, p2⟩
          · rw [← p1, ← p2]; exact h0
          · rw [← p1, ← p2, hC.1]; exact h0
        have g := mroad_l (N := N) (Lo := Lo) (Hi := Hi) (cC := cC) (cZ := cZ) hk r1 (fun j hj => (h.2.2.1 j hj).2.2.2.2.1) e1 e2 (hp _ _ _ _ (h.addNew hk r1 hlh hhi hor h00 hc1 hc2 (fun j hj => by rw [r2 j hj]; exact bfI_n h hj (by omega) hhi))) N k r1 (Nat.le_refl _) (by omega)
        rw [shf_0, shf_0, shf_0, shf_0] at g
        exact g
      · rw [if_neg hk] at hp
        have ek : k = 2000 := by omega
        subst ek
        exact ⟨fun z => absurd rfl z, fun _ => hp Lo Hi cC cZ h⟩
/-! the reference's barred turns -/
def BT (n q : Nat) (Bm : Nat → Nat) (Bar : Nat → Nat → Nat → Prop) : Prop :=
  (n ≤ 300 ∧ q ≤ 200) ∧ (∀ t, t < q → Bm (3 * t) < n ∧ Bm (3 * t + 1) < n ∧ Bm (3 * t + 2) < n ∧ Bar (Bm (3 * t)) (Bm (3 * t + 1)) (Bm (3 * t + 2))) ∧
  (∀ a b c, Bar a b c → a < n ∧ b < n ∧ c < n ∧ ∃ t, t < q ∧ Bm (3 * t) = a ∧ Bm (3 * t + 1) = b ∧ Bm (3 * t + 2) = c) ∧
  (∀ s t, s < q → t < q → Bm (3 * s) = Bm (3 * t) → Bm (3 * s + 1) = Bm (3 * t + 1) → Bm (3 * s + 2) = Bm (3 * t + 2) → s = t)
theorem barAt_l {N n q a b c : Nat} {Bm : Nat → Nat} {Bar : Nat → Nat → Nat → Prop} {post : Int32 → Prop} (h : BT n q Bm Bar) (ha : a < n) (hb : b < n) (hc : c < n) (h1 : ∀ t, t < q → Bm (3 * t) = a → Bm (3 * t + 1) = b → Bm (3 * t + 2) = c → post (nI t)) (h0 : ¬ Bar a b c → post (-1)) : ∀ (k t : Nat), t ≤ q → q - t < k → (∀ s, s < t → ¬ (Bm (3 * s) = a ∧ Bm (3 * s + 1) = b ∧ Bm (3 * s + 2) = c)) → w_X5_barAt_b3 N (nI q) (aI Bm) (nI a) (nI b) (nI c) post k (nI t) := by
  obtain ⟨hn, hq⟩ := h.1
  intro k
  induction k with
  | zero => intro t _ z; omega
  | succ k ih =>
    intro t ht hk hno
    show w_X5_barAt_b3_B N (nI q) (aI Bm) (nI a) (nI b) (nI c) post _ (nI t)
    unfold w_X5_barAt_b3_B
    refine pk_le q t (fun z => h0 (fun hB => ?_)) (fun z => ?_)
    · obtain ⟨-, -, -, s, hs, e1, e2, e3⟩ := h.2.2.1 a b c hB
      exact hno s (by omega) ⟨e1, e2, e3⟩
    · have g0 : (3 : Int32) * nI t = nI (3 * t) := pk_mul 3 t
      have g1 : nI (3 * t) + (1 : Int32) = nI (3 * t + 1) := nI_1 _
      have g2 : nI (3 * t) + (2 : Int32) = nI (3 * t + 2) := nI_add (3 * t) 2
      rw [g0, g1, g2, nI_clamp (by omega), nI_clamp (by omega), nI_clamp (by omega)]
      obtain ⟨l1, l2, l3, -⟩ := h.2.1 t z
      have e1 : (aI Bm (3 * t) = nI a) ↔ Bm (3 * t) = a := nI_eq (by omega) (by omega)
      have e2 : (aI Bm (3 * t + 1) = nI b) ↔ Bm (3 * t + 1) = b := nI_eq (by omega) (by omega)
      have e3 : (aI Bm (3 * t + 2) = nI c) ↔ Bm (3 * t + 2) = c := nI_eq (by omega) (by omega)
      rw [e1, e2, e3]
      have nx : ¬ (Bm (3 * t) = a ∧ Bm (3 * t + 1) = b ∧ Bm (3 * t + 2) = c) → ∀ y : Int32, y = nI t + (1 : Int32) → w_X5_barAt_b3 N (nI q) (aI Bm) (nI a) (nI b) (nI c) post k y := by
        intro hne y hy
        have ey : y = nI (t + 1) := by rw [hy]; exact nI_1 t
        subst ey
        refine ih (t + 1) (by omega) (by omega) (fun s hs => ?_)
        by_cases c1 : s = t
        · rw [c1]; exact hne
        · exact hno s (by omega)
      refine ⟨vp_in_nI (by omega) (by omega), fun p => nx (fun w => p w.1), fun p1 => ⟨vp_in_nI (by omega) (by omega), fun p => nx (fun w => p w.2.1), fun p2 => ⟨vp_in_nI (by omega) (by omega), fun p => nx (fun w => p w.2.2), fun p3 => h1 t z p1 p2 p3⟩⟩⟩
theorem barAt_s {N n q a b c : Nat} {Bm : Nat → Nat} {Bar : Nat → Nat → Nat → Prop} {post : Int32 → Prop} (h : BT n q Bm Bar) (hN : 4000 < N) (ha : a < n) (hb : b < n) (hc : c < n) (h1 : ∀ t, t < q → Bm (3 * t) = a → Bm (3 * t + 1) = b → Bm (3 * t + 2) = c → post (nI t)) (h0 : ¬ Bar a b c → post (-1)) : w_X5_barAt N (nI q) (aI Bm) (nI a) (nI b) (nI c) post :=
  barAt_l h ha hb hc h1 h0 N 0 (Nat.zero_le _) (by have := h.1.2; omega) (fun s hs => by omega)
/-- only whether it is barred -/
theorem barAt_b {N n q a b c : Nat} {Bm : Nat → Nat} {Bar : Nat → Nat → Nat → Prop} {post : Int32 → Prop} (h : BT n q Bm Bar) (hN : 4000 < N) (ha : a < n) (hb : b < n) (hc : c < n) (h1 : Bar a b c → ∀ t : Nat, t < 200 → post (nI t)) (h0 : ¬ Bar a b c → post (-1)) : w_X5_barAt N (nI q) (aI Bm) (nI a) (nI b) (nI c) post :=
  barAt_s h hN ha hb hc (fun t ht e1 e2 e3 => h1 (by have := (h.2.1 t ht).2.2.2; rw [e1, e2, e3] at this; exact this) t (by have := h.1.2; omega)) h0
theorem mdel_l {N p q : Nat} {B0 : Nat → Nat} {post : Int32 → Int32 → (Nat → Int32) → Prop} (hp : p ≤ q) (hq : q < 200) (h : post (nI q) (nI q) (aI (fun j => if 3 * p ≤ j ∧ j < 3 * p + 3 then B0 (3 * q + (j - 3 * p)) else B0 j))) : ∀ (k i : Nat), i ≤ 3 → 3 - i < k → w_X5_bar_b84 N post k (nI q) (aI (fun j => if 3 * p ≤ j ∧ j < 3 * p + i then B0 (3 * q + (j - 3 * p)) else B0 j)) (nI p) (nI i) := by
  intro k
  induction k with
  | zero => intro i _ z; omega
  | succ k ih =>
    intro i hi hk
    show w_X5_bar_b84_B N post _ (nI q) _ (nI p) (nI i)
    unfold w_X5_bar_b84_B
    refine pk_le 3 i (fun z => ?_) (fun z => ?_)
    · have e : i = 3 := by omega
      subst e
      exact h
    · have g0 : (3 : Int32) * nI q + nI i = nI (3 * q + i) := by rw [show (3 : Int32) = nI 3 from rfl, pk_mul, nI_add]
      have g1 : (3 : Int32) * nI p + nI i = nI (3 * p + i) := by rw [show (3 : Int32) = nI 3 from rfl, pk_mul, nI_add]
      rw [g0, g1, nI_clamp (by omega), nI_clamp (by omega)]
      refine ⟨vp_in_nI (by omega) (by omega), vp_in_nI (by omega) (by omega), fun y hy => ?_⟩
      have ey : y = nI (i + 1) := by rw [hy]; exact nI_1 i
      subst ey
      have ev : aI (fun j => if 3 * p ≤ j ∧ j < 3 * p + i then B0 (3 * q + (j - 3 * p)) else B0 j) (3 * q + i) = nI (B0 (3 * q + i)) := congrArg nI (if_neg (by omega))
      rw [ev, aI_upd]
      have e2 : va_up (fun j => if 3 * p ≤ j ∧ j < 3 * p + i then B0 (3 * q + (j - 3 * p)) else B0 j) (3 * p + i) (B0 (3 * q + i)) = (fun j => if 3 * p ≤ j ∧ j < 3 * p + (i + 1) then B0 (3 * q + (j - 3 * p)) else B0 j) := by
        funext j
        by_cases c1 : j = 3 * p + i
        · rw [c1, va_up_self, if_pos (by omega)]
          exact congrArg B0 (by omega)
        · rw [va_up_ne _ _ c1]
          by_cases c2 : 3 * p ≤ j ∧ j < 3 * p + i
          · rw [if_pos c2, if_pos (by omega)]
          · rw [if_neg c2, if_neg (by omega)]
      rw [e2]
      exact ih (i + 1) (by omega) (by omega)
theorem BT.add {n q a b c : Nat} {Bm : Nat → Nat} {Bar : Nat → Nat → Nat → Prop} (h : BT n q Bm Bar) (hq2 : q < 200) (ha : a < n) (hb : b < n) (hc : c < n) (hB : ¬ Bar a b c) : BT n (q + 1) (va_up (va_up (va_up Bm (3 * q) a) (3 * q + 1) b) (3 * q + 2) c) (barAdd Bar a b c) := by
  obtain ⟨hn, hq⟩ := h.1
  have o0 : ∀ j, j < 3 * q → va_up (va_up (va_up Bm (3 * q) a) (3 * q + 1) b) (3 * q + 2) c j = Bm j := fun j hj => by rw [va_up_ne _ _ (by omega), va_up_ne _ _ (by omega), va_up_ne _ _ (by omega)]
  have o1 : va_up (va_up (va_up Bm (3 * q) a) (3 * q + 1) b) (3 * q + 2) c (3 * q) = a := by rw [va_up_ne _ _ (by omega), va_up_ne _ _ (by omega), va_up_self]
  have o2 : va_up (va_up (va_up Bm (3 * q) a) (3 * q + 1) b) (3 * q + 2) c (3 * q + 1) = b := by rw [va_up_ne _ _ (by omega), va_up_self]
  have o3 : va_up (va_up (va_up Bm (3 * q) a) (3 * q + 1) b) (3 * q + 2) c (3 * q + 2) = c := va_up_self _ _ _
  generalize va_up (va_up (va_up Bm (3 * q) a) (3 * q + 1) b) (3 * q + 2) c = B' at o0 o1 o2 o3 ⊢
  have tr : ∀ t, t < q → B' (3 * t) = Bm (3 * t) ∧ B' (3 * t + 1) = Bm (3 * t + 1) ∧ B' (3 * t + 2) = Bm (3 * t + 2) := fun t ht => ⟨o0 _ (by omega), o0 _ (by omega), o0 _ (by omega)⟩
  refine ⟨⟨hn, by omega⟩, fun t ht => ?_, fun x y z hz => ?_, fun s t hs ht e1 e2 e3 => ?_⟩
  · by_cases c1 : t = q
    · subst c1
      rw [o1, o2, o3]
      exact ⟨ha, hb, hc, Or.inr ⟨rfl, rfl, rfl⟩⟩
    · obtain ⟨t1, t2, t3⟩ := tr t (by omega)
      rw [t1, t2, t3]
      obtain ⟨g1, g2, g3, g4⟩ := h.2.1 t (by omega)
      exact ⟨g1, g2, g3, Or.inl g4⟩
  · rcases hz with hz | ⟨e1, e2, e3⟩
    · obtain ⟨g1, g2, g3, t, ht, e1, e2, e3⟩ := h.2.2.1 x y z hz
      obtain ⟨t1, t2, t3⟩ := tr t ht
      exact ⟨g1, g2, g3, t, by omega, by rw [t1]; exact e1, by rw [t2]; exact e2, by rw [t3]; exact e3⟩
    · rw [e1, e2, e3]
      exact ⟨ha, hb, hc, q, by omega, o1, o2, o3⟩
  · by_cases c1 : s = q
    · by_cases c2 : t = q
      · omega
      · obtain ⟨t1, t2, t3⟩ := tr t (by omega)
        rw [c1, o1, t1] at e1
        rw [c1, o2, t2] at e2
        rw [c1, o3, t3] at e3
        have := (h.2.1 t (by omega)).2.2.2
        rw [← e1, ← e2, ← e3] at this
        exact absurd this hB
    · obtain ⟨s1, s2, s3⟩ := tr s (by omega)
      by_cases c2 : t = q
      · rw [c2, o1, s1] at e1
        rw [c2, o2, s2] at e2
        rw [c2, o3, s3] at e3
        have := (h.2.1 s (by omega)).2.2.2
        rw [e1, e2, e3] at this
        exact absurd this hB
      · obtain ⟨t1, t2, t3⟩ := tr t (by omega)
        rw [s1, t1] at e1
        rw [s2, t2] at e2
        rw [s3, t3] at e3
        exact h.2.2.2 s t (by omega) (by omega) e1 e2 e3
theorem BT.del {n q a b c p : Nat} {Bm : Nat → Nat} {Bar : Nat → Nat → Nat → Prop} (h : BT n (q + 1) Bm Bar) (hp : p ≤ q) (e1 : Bm (3 * p) = a) (e2 : Bm (3 * p + 1) = b) (e3 : Bm (3 * p + 2) = c) : BT n q (fun j => if 3 * p ≤ j ∧ j < 3 * p + 3 then Bm (3 * q + (j - 3 * p)) else Bm j) (barDel Bar a b c) := by
  obtain ⟨hn, hq⟩ := h.1
  have tr : ∀ t, t ≠ p → (if 3 * p ≤ 3 * t ∧ 3 * t < 3 * p + 3 then Bm (3 * q + (3 * t - 3 * p)) else Bm (3 * t)) = Bm (3 * t) ∧ (if 3 * p ≤ 3 * t + 1 ∧ 3 * t + 1 < 3 * p + 3 then Bm (3 * q + (3 * t + 1 - 3 * p)) else Bm (3 * t + 1)) = Bm (3 * t + 1) ∧ (if 3 * p ≤ 3 * t + 2 ∧ 3 * t + 2 < 3 * p + 3 then Bm (3 * q + (3 * t + 2 - 3 * p)) else Bm (3 * t + 2)) = Bm (3 * t + 2) := fun t ht => ⟨if_neg (by omega), if_neg (by omega), if_neg (by omega)⟩
  have tp : (if 3 * p ≤ 3 * p ∧ 3 * p < 3 * p + 3 then Bm (3 * q + (3 * p - 3 * p)) else Bm (3 * p)) = Bm (3 * q) ∧ (if 3 * p ≤ 3 * p + 1 ∧ 3 * p + 1 < 3 * p + 3 then Bm (3 * q + (3 * p + 1 - 3 * p)) else Bm (3 * p + 1)) = Bm (3 * q + 1) ∧ (if 3 * p ≤ 3 * p + 2 ∧ 3 * p + 2 < 3 * p + 3 then Bm (3 * q + (3 * p + 2 - 3 * p)) else Bm (3 * p + 2)) = Bm (3 * q + 2) := by
    refine ⟨?_, ?_, ?_⟩
    · rw [if_pos (by omega)]; exact congrArg Bm (by omega)
    · rw [if_pos (by omega)]; exact congrArg Bm (by omega)
    · rw [if_pos (by omega)]; exact congrArg Bm (by omega)
  -- the place that each old one comes from
  have src : ∀ t, t < q → ∃ s, s < q + 1 ∧ s ≠ p ∧ (t = p → s = q) ∧ (t ≠ p → s = t) ∧ (if 3 * p ≤ 3 * t ∧ 3 * t < 3 * p + 3 then Bm (3 * q + (3 * t - 3 * p)) else Bm (3 * t)) = Bm (3 * s) ∧ (if 3 * p ≤ 3 * t + 1 ∧ 3 * t + 1 < 3 * p + 3 then Bm (3 * q + (3 * t + 1 - 3 * p)) else Bm (3 * t + 1)) = Bm (3 * s + 1) ∧ (if 3 * p ≤ 3 * t + 2 ∧ 3 * t + 2 < 3 * p + 3 then Bm (3 * q + (3 * t + 2 - 3 * p)) else Bm (3 * t + 2)) = Bm (3 * s + 2) := by
    intro t ht
    by_cases c1 : t = p
    · subst c1
      exact ⟨q, by omega, by omega, fun _ => rfl, fun z => absurd rfl z, tp⟩
    · exact ⟨t, by omega, c1, fun z => absurd z c1, fun _ => rfl, tr t c1⟩
  refine ⟨⟨hn, by omega⟩, fun t ht => ?_, fun x y z hz => ?_, fun s t hs ht f1 f2 f3 => ?_⟩
  · obtain ⟨s, hs, hsp, -, -, q1, q2, q3⟩ := src t ht
    show (if 3 * p ≤ 3 * t ∧ 3 * t < 3 * p + 3 then Bm (3 * q + (3 * t - 3 * p)) else Bm (3 * t)) < n ∧ (if 3 * p ≤ 3 * t + 1 ∧ 3 * t + 1 < 3 * p + 3 then Bm (3 * q + (3 * t + 1 - 3 * p)) else Bm (3 * t + 1)) < n ∧ (if 3 * p ≤ 3 * t + 2 ∧ 3 * t + 2 < 3 * p + 3 then Bm (3 * q + (3 * t + 2 - 3 * p)) else Bm (3 * t + 2)) < n ∧ barDel Bar a b c (if 3 * p ≤ 3 * t ∧ 3 * t < 3 * p + 3 then Bm (3 * q + (3 * t - 3 * p)) else Bm (3 * t)) (if 3 * p ≤ 3 * t + 1 ∧ 3 * t + 1 < 3 * p + 3 then Bm (3 * q + (3 * t + 1 - 3 * p)) else Bm (3 * t + 1)) (if 3 * p ≤ 3 * t + 2 ∧ 3 * t + 2 < 3 * p + 3 then Bm (3 * q + (3 * t + 2 - 3 * p)) else Bm (3 * t + 2))
    rw [q1, q2, q3]
    obtain ⟨g1, g2, g3, g4⟩ := h.2.1 s hs
    exact ⟨g1, g2, g3, g4, fun w => hsp (h.2.2.2 s p hs (by omega) (w.1.trans e1.symm) (w.2.1.trans e2.symm) (w.2.2.trans e3.symm))⟩
  · obtain ⟨hz1, hz2⟩ := hz
    obtain ⟨g1, g2, g3, s, hs, f1, f2, f3⟩ := h.2.2.1 x y z hz1
    have hsp : s ≠ p := fun w => hz2 (by rw [← f1, ← f2, ← f3, w]; exact ⟨e1, e2, e3⟩)
    refine ⟨g1, g2, g3, ?_⟩
    by_cases c1 : s = q
    · subst c1
      exact ⟨p, by omega, tp.1.trans f1, tp.2.1.trans f2, tp.2.2.trans f3⟩
    · exact ⟨s, by omega, (tr s hsp).1.trans f1, (tr s hsp).2.1.trans f2, (tr s hsp).2.2.trans f3⟩
  · obtain ⟨s', hs', hsp', a1, a2, q1, q2, q3⟩ := src s hs
    obtain ⟨t', ht', htp', b1, b2, r1, r2, r3⟩ := src t ht
    have := h.2.2.2 s' t' hs' ht' (q1.symm.trans (f1.trans r1)) (q2.symm.trans (f2.trans r2)) (q3.symm.trans (f3.trans r3))
    by_cases c1 : s = p
    · by_cases c2 : t = p
      · omega
      · have := a1 c1; have := b2 c2; omega
    · by_cases c2 : t = p
      · have := a2 c1; have := b1 c2; omega
      · have := a2 c1; have := b2 c2; omega
theorem mbar_s {N n q : Nat} {Bm : Nat → Nat} {Bar : Nat → Nat → Nat → Prop} {x1 x2 x3 x4 : Int32} {post : Int32 → Int32 → (Nat → Int32) → Prop} (h : BT n q Bm Bar) (hN : 4000 < N) (h4 : x4 = 0 ∨ x4 = 1) (hp : ∀ Bm', BT n (bF n q Bar x1 x2 x3 x4).2.1 Bm' (bF n q Bar x1 x2 x3 x4).2.2 → post (bF n q Bar x1 x2 x3 x4).1 (nI (bF n q Bar x1 x2 x3 x4).2.1) (aI Bm')) : w_X5_bar N (nI n) (nI q) (aI Bm) x1 x2 x3 x4 post := by
  obtain ⟨hn, hq⟩ := h.1
  unfold w_X5_bar
  have bad : ¬ (isN n x1 ∧ isN n x2 ∧ isN n x3 ∧ x1 ≠ x2 ∧ x2 ≠ x3) → post (-14) (nI q) (aI Bm) := fun hb => by
    rw [bF_bad hb] at hp
    exact hp Bm h
  refine isNode_s (by omega) (fun a ha ea => ⟨fun z => absurd z (by decide), fun _ => ?_⟩) (fun hz => ⟨fun _ => bad (fun z => hz z.1), fun z => absurd rfl z⟩)
  refine isNode_s (by omega) (fun b hb eb => ⟨fun z => absurd z (by decide), fun _ => ?_⟩) (fun hz => ⟨fun _ => bad (fun z => hz z.2.1), fun z => absurd rfl z⟩)
  refine isNode_s (by omega) (fun c hc ec => ⟨fun z => absurd z (by decide), fun _ => ?_⟩) (fun hz => ⟨fun _ => bad (fun z => hz z.2.2.1), fun z => absurd rfl z⟩)
  refine ⟨fun he => bad (fun z => z.2.2.2.1 he), fun hne => ⟨fun hne2 => ?_, fun he => bad (fun z => z.2.2.2.2 he)⟩⟩
  subst ea eb ec
  have hab : a ≠ b := fun z => hne (by rw [z])
  have hbc : b ≠ c := fun z => hne2 (by rw [z])
  rw [bF_in hn ha hb hc hab hbc] at hp
  refine barAt_s h hN ha hb hc (fun t ht e1 e2 e3 => ?_) (fun hB => ?_)
  · have hB : Bar a b c := by have := (h.2.1 t ht).2.2.2; rw [e1, e2, e3] at this; exact this
    rw [if_pos hB] at hp
    refine ⟨fun z => absurd z (nI_pos (by omega)), fun _ => ?_⟩
    unfold w_X5_bar_b56
    rcases h4 with h4 | h4
    · subst h4
      rw [if_pos rfl] at hp
      refine ⟨fun _ => ⟨fun z => absurd rfl z, fun _ => ?_⟩, fun z => absurd z (by decide)⟩
      have em : nI q - (1 : Int32) = nI (q - 1) := pk_sub (a := q) (b := 1) (by omega)
      rw [em]
      have h' : BT n (q - 1 + 1) Bm Bar := by rw [show q - 1 + 1 = q by omega]; exact h
      have g := mdel_l (N := N) (p := t) (q := q - 1) (B0 := Bm) (by omega) (by omega) (hp _ (h'.del (by omega) e1 e2 e3)) N 0 (by omega) (by omega)
      have e0 : (fun j => if 3 * t ≤ j ∧ j < 3 * t + 0 then Bm (3 * (q - 1) + (j - 3 * t)) else Bm j) = Bm := funext (fun j => if_neg (by omega))
      rw [e0] at g
      exact g
    · subst h4
      rw [if_neg (by decide)] at hp
      exact ⟨fun z => absurd rfl z, fun _ => hp Bm h⟩
  · rw [if_neg hB] at hp
    refine ⟨fun _ => ?_, fun z => absurd m1_lt z⟩
    unfold w_X5_bar_b56
    rcases h4 with h4 | h4
    · subst h4
      rw [if_pos rfl] at hp
      exact ⟨fun z => absurd rfl z, fun _ => hp Bm h⟩
    · subst h4
      rw [if_neg (by decide)] at hp
      refine ⟨fun _ => ⟨fun _ => ?_, fun z => absurd z (by decide)⟩, fun z => absurd z (by decide)⟩
      by_cases hq2 : q < 200
      · rw [if_pos hq2] at hp
        refine ⟨fun _ => ?_, fun z => absurd ((nI_eq (a := q) (b := 200) (by omega) (by omega)).mp z) (by omega)⟩
        have g0 : (3 : Int32) * nI q = nI (3 * q) := pk_mul 3 q
        have g1 : nI (3 * q) + (1 : Int32) = nI (3 * q + 1) := nI_1 _
        have g2 : nI (3 * q) + (2 : Int32) = nI (3 * q + 2) := nI_add (3 * q) 2
        have g3 : nI q + (1 : Int32) = nI (q + 1) := nI_1 _
        rw [g0, g1, g2, g3, nI_clamp (by omega), nI_clamp (by omega), nI_clamp (by omega), aI_upd, aI_upd, aI_upd]
        exact ⟨vp_in_nI (by omega) (by omega), vp_in_nI (by omega) (by omega), vp_in_nI (by omega) (by omega), hp _ (h.add hq2 ha hb hc hB)⟩
      · rw [if_neg hq2] at hp
        have eq : q = 200 := by omega
        subst eq
        exact ⟨fun z => absurd rfl z, fun _ => hp Bm h⟩
