/-! route() of the reference -/
def BST (Lo Hi T Mn : Nat → Nat) (S : Nat → Prop) (r : Int32) : Prop := (r = -1 ∧ ∀ w, ¬ S w) ∨ (∃ w, S w ∧ r = nI w ∧ ∀ w', S w' → kk T Mn w < kk T Mn w' ∨ (kk T Mn w = kk T Mn w' ∧ stM Lo Hi (xr w) ≤ stM Lo Hi (xr w')))
theorem BST.iff {Lo Hi T Mn : Nat → Nat} {S S' : Nat → Prop} {r : Int32} (h : BST Lo Hi T Mn S r) (e : ∀ w, S' w ↔ S w) : BST Lo Hi T Mn S' r := by
  rcases h with ⟨a, b⟩ | ⟨w, a, b, c⟩
  · exact Or.inl ⟨a, fun w z => b w ((e w).mp z)⟩
  · exact Or.inr ⟨w, (e w).mpr a, b, fun w' z => c w' ((e w').mp z)⟩
theorem better_s {N n k wb : Nat} {Lo Hi cC cZ T Mn K : Nat → Nat} {Cs : Nat → Nat → Int32} {S : Nat → Prop} {x1 : Int32} {post : Int32 → Prop} (h : MT n k Lo Hi cC cZ Cs) (hT : ∀ j, T j < 2 ^ 63) (hM : ∀ j, Mn j < 4096) (hK1 : ∀ w, K w ≤ 1) (hS : ∀ w, S w → w < 2 * k) (hb : BST Lo Hi T Mn S x1) (hw : wb < 2 * k) (hp : ∀ r, BST Lo Hi T Mn (fun w => S w ∨ (w = wb ∧ K wb ≠ 0)) r → post r) : w_X5_better N (aI Lo) (aI Hi) (aL T) (aI Mn) (aI K) x1 (nI wb) post := by
  obtain ⟨n1, n2, n3⟩ := h.1
  have kb := hK1 wb
  unfold w_X5_better
  rw [nI_clamp (by omega), show aI K wb = nI (K wb) from rfl, show (0 : Int32) = nI 0 from rfl, nI_eq (a := K wb) (b := 0) (by omega) (by omega)]
  refine ⟨vp_in_nI (by omega) (by omega), fun hk => ?_, fun hk => hp x1 (hb.iff (fun w => ⟨fun z => z.elim id (fun y => absurd hk y.2), Or.inl⟩))⟩
  rcases hb with ⟨a, b⟩ | ⟨wa, a, b, c⟩
  · subst a
    exact ⟨fun _ => hp _ (Or.inr ⟨wb, Or.inr ⟨rfl, hk⟩, rfl, fun w' z => z.elim (fun y => absurd y (b w')) (fun y => by rw [y.1]; exact Or.inr ⟨rfl, Nat.le_refl _⟩)⟩), fun z => absurd m1_lt z⟩
  · subst b
    have ha := hS wa a
    have exb := h.st (xr_lt hw)
    have exa := h.st (xr_lt ha)
    have takeB : (∀ w', S w' → kk T Mn wb < kk T Mn w' ∨ (kk T Mn wb = kk T Mn w' ∧ stM Lo Hi (xr wb) ≤ stM Lo Hi (xr w'))) → post (nI wb) := fun q => hp _ (Or.inr ⟨wb, Or.inr ⟨rfl, hk⟩, rfl, fun w' z => z.elim (q w') (fun y => by rw [y.1]; exact Or.inr ⟨rfl, Nat.le_refl _⟩)⟩)
    have takeA : (kk T Mn wa < kk T Mn wb ∨ (kk T Mn wa = kk T Mn wb ∧ stM Lo Hi (xr wa) ≤ stM Lo Hi (xr wb))) → post (nI wa) := fun q => hp _ (Or.inr ⟨wa, Or.inl a, rfl, fun w' z => z.elim (c w') (fun y => by rw [y.1]; exact q)⟩)
    refine ⟨fun z => absurd z (nI_pos (by omega)), fun _ => isLess_s (by omega) (by omega) hT hM (fun hlt => ⟨fun z => absurd z (by decide), fun _ => takeB (fun w' z => ?_)⟩) (fun hnlt => ⟨fun _ => isLess_s (by omega) (by omega) hT hM (fun hlt => ⟨fun _ => takeA (Or.inl hlt), fun z => absurd z (by decide)⟩) (fun hn2 => ⟨fun z => absurd rfl z, fun _ => end_s (by omega) (end_s (by omega) ?_)⟩), fun z => absurd rfl z⟩)⟩
    · have := c w' z
      omega
    · refine pk_le (stM Lo Hi (xr wa)) (stM Lo Hi (xr wb)) (fun q => takeA (Or.inr ⟨by omega, q⟩)) (fun q => takeB (fun w' z => ?_)) rfl rfl (by omega) (by omega)
      have := c w' z
      omega
/-- the values of the reference's search, by nodes -/
def VM (k : Nat) (Lo Hi D : Nat → Nat) (x y v : Nat) : Prop := ∃ w, w < 2 * k ∧ stM Lo Hi w = x ∧ stM Lo Hi (xr w) = y ∧ D w = v
/-- the chain of a node's arcs, without turns: the best first one -/
theorem first_l {N n k q a : Nat} {x1 x2 : Int32} {Lo Hi cC cZ Bm T Mn K : Nat → Nat} {Cs : Nat → Nat → Int32} {vHN vL : Int32} {vF vX vH vRow : Nat → Int32} {post : Int64 → Int32 → Int32 → (Nat → Int64) → (Nat → Int32) → (Nat → Int32) → (Nat → Int32) → (Nat → Int32) → (Nat → Int32) → (Nat → Int32) → Prop} (h : MT n k Lo Hi cC cZ Cs) (hch : CH n k Lo Hi cZ vF vX) (hT : ∀ j, T j < 2 ^ 63) (hM : ∀ j, Mn j < 4096) (hK1 : ∀ w, K w ≤ 1)
    (hfin : ∀ x3, BST Lo Hi T Mn (fun w => w < 2 * k ∧ cZ (w / 2) = 0 ∧ stM Lo Hi w = a ∧ K w ≠ 0) x3 → (((0 : Int32) ≤ x3 → vp_in x3 4000 ∧ ∀ x4_20 : Int64, x4_20 = (aL T x3.toNatClampNeg) → vp_in (0 : Int32) 4001 ∧ w_X5_end N (aI Lo) (aI Hi) x3 (fun r_23 => vp_in (1 : Int32) 4001 ∧ w_X5_route_b123 N (nI q) (aI Lo) (aI Hi) (aI Bm) x2 post N vHN (2 : Int32) (aL T) (aI Mn) (aI K) vF vX vH (upd (upd vRow (0 : Int32).toNatClampNeg x1) (1 : Int32).toNatClampNeg r_23) x3 x4_20)) ∧ (¬ ((0 : Int32) ≤ x3) → post (-3 : Int64) vHN vL (aL T) (aI Mn) (aI K) vF vX vH vRow))) :
    ∀ (t lo : Nat) (x3 r : Int32), lo ≤ 2 * k → 2 * k - lo < t → BST Lo Hi T Mn (fun w => w < lo ∧ w < 2 * k ∧ cZ (w / 2) = 0 ∧ stM Lo Hi w = a ∧ K w ≠ 0) x3 → NX k Lo Hi cZ a lo r → w_X5_route_b59 N (nI q) (aI Lo) (aI Hi) (aI Bm) x1 x2 post t vHN vL (aL T) (aI Mn) (aI K) vF vX vH vRow x3 r := by
  obtain ⟨n1, n2, n3⟩ := h.1
  intro t
  induction t with
  | zero => intro lo x3 r _ z; omega
  | succ t ih =>
    intro lo x3 r k1 k2 hb hX
    show w_X5_route_b59_B N (nI q) (aI Lo) (aI Hi) (aI Bm) x1 x2 post _ vHN vL (aL T) (aI Mn) (aI K) vF vX vH vRow x3 r
    unfold w_X5_route_b59_B
    rcases hX with ⟨w, p1, p2, p3, p4, p5, p6⟩ | ⟨p1, p2⟩
    · subst p5
      have hnx := hch.2 w p2 p3
      rw [p4] at hnx
      rw [nI_clamp (by omega)]
      refine ⟨fun z => absurd z (nI_pos (by omega)), fun _ => better_s h hT hM hK1 (fun w z => z.2.1) hb p2 (fun r' hr' => ⟨vp_in_nI (by omega) (by omega), fun y hy => ?_⟩)⟩
      rw [hy]
      refine ih (w + 1) r' (vX w) (by omega) (by omega) (hr'.iff (fun y => ?_)) hnx
      constructor
      · rintro ⟨a1, a2, a3, a4, a5⟩
        by_cases c : y < lo
        · exact Or.inl ⟨c, a2, a3, a4, a5⟩
        · by_cases c2 : y = w
          · exact Or.inr ⟨c2, by rw [← c2]; exact a5⟩
          · exact absurd ⟨a3, a4⟩ (p6 y (by omega) (by omega))
      · rintro (⟨a1, a2, a3, a4, a5⟩ | ⟨a1, a2⟩)
        · exact ⟨by omega, a2, a3, a4, a5⟩
        · rw [a1]; exact ⟨by omega, p2, p3, p4, a2⟩
    · subst p1
      refine ⟨fun _ => hfin x3 (hb.iff (fun w => ⟨fun ⟨a2, a3, a4, a5⟩ => ?_, fun z => z.2⟩)), fun z => absurd m1_lt z⟩
      by_cases c : w < lo
      · exact ⟨c, a2, a3, a4, a5⟩
      · exact absurd ⟨a3, a4⟩ (p2 w (by omega) a2)
theorem next_l {N n k q w0 : Nat} {x4 : Int64} {Lo Hi cC cZ Bm T Mn K : Nat → Nat} {Cs : Nat → Nat → Int32} {Bar : Nat → Nat → Nat → Prop} {vHN vL : Int32} {vF vX vH vRow : Nat → Int32} {post : Int64 → Int32 → Int32 → (Nat → Int64) → (Nat → Int32) → (Nat → Int32) → (Nat → Int32) → (Nat → Int32) → (Nat → Int32) → (Nat → Int32) → Prop} {k123 : Int32 → Int32 → (Nat → Int64) → (Nat → Int32) → (Nat → Int32) → (Nat → Int32) → (Nat → Int32) → (Nat → Int32) → (Nat → Int32) → Int32 → Int64 → Prop} (h : MT n k Lo Hi cC cZ Cs) (hB : BT n q Bm Bar) (hN : 4000 < N) (hch : CH n k Lo Hi cZ vF vX) (hT : ∀ j, T j < 2 ^ 63) (hM : ∀ j, Mn j < 4096) (hK1 : ∀ w, K w ≤ 1) (hw0 : w0 < 2 * k)
    (hfin : ∀ x6, BST Lo Hi T Mn (fun w => w < 2 * k ∧ cZ (w / 2) = 0 ∧ stM Lo Hi w = stM Lo Hi (xr w0) ∧ K w ≠ 0 ∧ ¬ Bar (stM Lo Hi w0) (stM Lo Hi (xr w0)) (stM Lo Hi (xr w))) x6 → w_X5_end N (aI Lo) (aI Hi) x6 (fun r_32 => vp_in vL 4001 ∧ k123 vHN (vL + (1 : Int32)) (aL T) (aI Mn) (aI K) vF vX vH (upd vRow vL.toNatClampNeg r_32) x6 x4)) :
    ∀ (t lo : Nat) (x6 r : Int32), lo ≤ 2 * k → 2 * k - lo < t → BST Lo Hi T Mn (fun w => w < lo ∧ w < 2 * k ∧ cZ (w / 2) = 0 ∧ stM Lo Hi w = stM Lo Hi (xr w0) ∧ K w ≠ 0 ∧ ¬ Bar (stM Lo Hi w0) (stM Lo Hi (xr w0)) (stM Lo Hi (xr w))) x6 → NX k Lo Hi cZ (stM Lo Hi (xr w0)) lo r → w_X5_route_b147 N (nI q) (aI Lo) (aI Hi) (aI Bm) post k123 t vHN vL (aL T) (aI Mn) (aI K) vF vX vH vRow (nI w0) x4 x6 r := by
  obtain ⟨n1, n2, n3⟩ := h.1
  intro t
  induction t with
  | zero => intro lo x3 r _ z; omega
  | succ t ih =>
    intro lo x6 r k1 k2 hb hX
    show w_X5_route_b147_B N (nI q) (aI Lo) (aI Hi) (aI Bm) post k123 _ vHN vL (aL T) (aI Mn) (aI K) vF vX vH vRow (nI w0) x4 x6 r
    unfold w_X5_route_b147_B
    rcases hX with ⟨w, p1, p2, p3, p4, p5, p6⟩ | ⟨p1, p2⟩
    · subst p5
      have hnx := hch.2 w p2 p3
      rw [p4] at hnx
      rw [nI_clamp (by omega)]
      refine ⟨fun z => absurd z (nI_pos (by omega)), fun _ => start_s (by omega) (end_s (by omega) (end_s (by omega) ?_))⟩
      refine barAt_b hB hN (h.st hw0) (h.st (xr_lt hw0)) (h.st (xr_lt p2)) (fun hbar tt htt => ⟨fun _ => ⟨vp_in_nI (by omega) (by omega), fun y hy => ?_⟩, fun z => absurd (nI_pos' (by omega)) z⟩) (fun hbar => ⟨fun z => absurd z (by decide), fun _ => better_s h hT hM hK1 (fun w z => z.2.1) hb p2 (fun r' hr' => ⟨vp_in_nI (by omega) (by omega), fun y hy => ?_⟩)⟩)
      · rw [hy]
        refine ih (w + 1) x6 (vX w) (by omega) (by omega) (hb.iff (fun y => ⟨fun ⟨a1, a2, a3, a4, a5, a6⟩ => ?_, fun ⟨a1, a2⟩ => ⟨by omega, a2⟩⟩)) hnx
        by_cases c : y < lo
        · exact ⟨c, a2, a3, a4, a5, a6⟩
        · by_cases c2 : y = w
          · rw [c2] at a6; exact absurd hbar a6
          · exact absurd ⟨a3, a4⟩ (p6 y (by omega) (by omega))
      · rw [hy]
        refine ih (w + 1) r' (vX w) (by omega) (by omega) (hr'.iff (fun y => ?_)) hnx
        constructor
        · rintro ⟨a1, a2, a3, a4, a5, a6⟩
          by_cases c : y < lo
          · exact Or.inl ⟨c, a2, a3, a4, a5, a6⟩
          · by_cases c2 : y = w
            · exact Or.inr ⟨c2, by rw [← c2]; exact a5⟩
            · exact absurd ⟨a3, a4⟩ (p6 y (by omega) (by omega))
        · rintro (⟨a1, a2, a3, a4, a5, a6⟩ | ⟨a1, a2⟩)
          · exact ⟨by omega, a2, a3, a4, a5, a6⟩
          · rw [a1]; exact ⟨by omega, p2, p3, p4, a2, hbar⟩
    · subst p1
      refine ⟨fun _ => hfin x6 (hb.iff (fun w => ⟨fun ⟨a2, a3, a4, a5⟩ => ?_, fun z => z.2⟩)), fun z => absurd m1_lt z⟩
      by_cases c : w < lo
      · exact ⟨c, a2, a3, a4, a5⟩
      · exact absurd ⟨a3, a4⟩ (p2 w (by omega) a2)
theorem MT.cs {n k : Nat} {Lo Hi cC cZ : Nat → Nat} {Cs : Nat → Nat → Int32} (h : MT n k Lo Hi cC cZ Cs) (hC : CS n Cs) {w : Nat} (hw : w < 2 * k) (ho : cZ (w / 2) = 0) : Cs (stM Lo Hi (xr w)) (stM Lo Hi w) = nI (cC (w / 2)) ∧ wC (Cs (stM Lo Hi (xr w)) (stM Lo Hi w)) = cC (w / 2) * 4096 + 1 := by
  have l := h.2.2.1 (w / 2) (by omega)
  have e := l.2.2.2.2.2
  rw [if_pos ho] at e
  have key : Cs (stM Lo Hi (xr w)) (stM Lo Hi w) = nI (cC (w / 2)) := by
    have d := xr_div w
    unfold stM
    by_cases q : w % 2 = 0
    · have : ¬ xr w % 2 = 0 := by unfold xr; rw [if_pos q]; omega
      rw [if_pos q, if_neg this, d, hC.1]; exact e
    · have : xr w % 2 = 0 := by unfold xr; rw [if_neg q]; omega
      rw [if_neg q, if_pos this, d]; exact e
  refine ⟨key, ?_⟩
  rw [key, wC_nI l.2.2.2.1]
theorem mway_l {N n k q b M : Nat} {x4 : Int64} {Lo Hi cC cZ Bm T Mn K : Nat → Nat} {Cs : Nat → Nat → Int32} {Bar : Nat → Nat → Nat → Prop} {vHN : Int32} {vF vX vH : Nat → Int32} {dn : Nat → Prop} {post : Int64 → Int32 → Int32 → (Nat → Int64) → (Nat → Int32) → (Nat → Int32) → (Nat → Int32) → (Nat → Int32) → (Nat → Int32) → (Nat → Int32) → Prop} (h : MT n k Lo Hi cC cZ Cs) (hC : CS n Cs) (hB : BT n q Bm Bar) (hN : 4000 < N) (hb : b < n) (hch : CH n k Lo Hi cZ vF vX) (hT : ∀ j, T j < 2 ^ 63) (hM : ∀ j, Mn j < 4096) (hK1 : ∀ w, K w ≤ 1)
    (hpos : ∀ w, w < 2 * k → K w ≠ 0 → 1 ≤ Mn w) (hD : DInv b (fun e => stM Lo Hi (xr e)) (fun e => stM Lo Hi (xr (xr e))) (fun w => w < 2 * k ∧ cZ (w / 2) = 0) (fun w => cC (w / 2) * 4096 + 1) (fun x y z => Bar z y x) (DM k K T Mn) dn M) (hall : ∀ w, w < 2 * k → K w ≠ 0 → dn w)
    (v0 a : Nat) (hp : ∀ L Y rs, Way (VM k Lo Hi (DM k K T Mn)) (fun x y => wC (Cs y x)) Bar L Y rs → L ≤ 4001 → Y 0 = a → rs 0 = v0 → post x4 vHN (nI L) (aL T) (aI Mn) (aI K) vF vX vH (aI Y)) :
    ∀ (t j w : Nat) (Y rs : Nat → Nat), 4000 < t + j → j + mu (DM k K T Mn) (2 * k) (kk T Mn w) ≤ 4000 → w < 2 * k → K w ≠ 0 → stM Lo Hi w = Y j → stM Lo Hi (xr w) = Y (j + 1) → rs j = kk T Mn w → Y 0 = a → rs 0 = v0 →
      (∀ i, i < j → rs i ≠ 0 ∧ VM k Lo Hi (DM k K T Mn) (Y i) (Y (i + 1)) (rs i) ∧ (0 < i → ¬ Bar (Y (i - 1)) (Y i) (Y (i + 1))) ∧ (∀ y, VM k Lo Hi (DM k K T Mn) (Y i) y (rs i) → (0 < i → ¬ Bar (Y (i - 1)) (Y i) y) → Y (i + 1) ≤ y) ∧ rs i = wC (Cs (Y (i + 1)) (Y i)) + rs (i + 1)) →
      (0 < j → ¬ Bar (Y (j - 1)) (Y j) (Y (j + 1))) → (∀ y, VM k Lo Hi (DM k K T Mn) (Y j) y (rs j) → (0 < j → ¬ Bar (Y (j - 1)) (Y j) y) → Y (j + 1) ≤ y) →
      w_X5_route_b123 N (nI q) (aI Lo) (aI Hi) (aI Bm) (nI b) post t vHN (nI (j + 2)) (aL T) (aI Mn) (aI K) vF vX vH (aI Y) (nI w) x4 := by
  obtain ⟨n1, n2, n3⟩ := h.1
  intro t
  induction t with
  | zero => intro j w Y rs z1 z2; omega
  | succ t ih =>
    intro j w Y rs k1 k2 k3 k4 k5 k6 k7 k8 k9 k10 k11 k12
    show w_X5_route_b123_B N (nI q) (aI Lo) (aI Hi) (aI Bm) (nI b) post _ vHN (nI (j + 2)) (aL T) (aI Mn) (aI K) vF vX vH (aI Y) (nI w) x4
    unfold w_X5_route_b123_B
    have dmv : ∀ w, w < 2 * k → K w ≠ 0 → DM k K T Mn w = kk T Mn w := fun w a b => if_pos ⟨a, b⟩
    have kpos : ∀ w, w < 2 * k → K w ≠ 0 → kk T Mn w ≠ 0 := fun w a b => by have := hpos w a b; unfold kk; omega
    have hdw : DM k K T Mn w ≠ 0 := by rw [dmv w k3 k4]; exact kpos w k3 k4
    obtain ⟨⟨-, ho⟩, hor⟩ := hD.1 w hdw
    rw [dmv w k3 k4] at hor
    obtain ⟨cs1, cs2⟩ := h.cs hC k3 ho
    rw [k5, k6] at cs2
    have mupos := mu_pos (D := DM k K T Mn) k3 (dmv w k3 k4) (kpos w k3 k4)
    have hxw := h.st (xr_lt k3)
    refine end_s (by omega) ⟨fun he => ?_, fun hne => end_s (by omega) ⟨vp_in_nI (by omega) (by omega), fun x7 e7 => ?_⟩⟩
    · have eb : stM Lo Hi (xr w) = b := nI_inj (n := n) (by omega) hxw hb he
      have e1 : kk T Mn w = cC (w / 2) * 4096 + 1 := by
        have := hD.2.1 w ⟨k3, ho⟩ eb
        rw [dmv w k3 k4] at this
        exact this
      refine hp (j + 2) Y (va_up rs (j + 1) 0) ⟨by omega, fun i hi => ?_, by rw [show j + 2 - 1 = j + 1 by omega, va_up_self]⟩ (by omega) k8 (by rw [va_up_ne _ _ (by omega)]; exact k9)
      by_cases c : i = j
      · subst c
        rw [va_up_self, va_up_ne _ _ (by omega), k7]
        refine ⟨kpos w k3 k4, ⟨w, k3, k5, k6, dmv w k3 k4⟩, k11, fun y hy hb2 => k12 y (by rw [k7]; exact hy) hb2, by show kk T Mn w = wC (Cs (Y (i + 1)) (Y i)) + 0; rw [cs2]; omega⟩
      · rw [va_up_ne _ _ (show i ≠ j + 1 by omega), va_up_ne _ _ (show i + 1 ≠ j + 1 by omega)]
        exact k10 i (by omega)
    · have hnb : stM Lo Hi (xr w) ≠ b := fun z => hne (by rw [z])
      have hnx := hch.1 (stM Lo Hi (xr w)) hxw
      rw [nI_clamp (by omega)] at e7
      rw [← e7] at hnx
      -- the arcs that may follow: one has just what is left, none has less
      obtain ⟨f0, g1, g2, g3, g4⟩ : ∃ f0, f0 < 2 * k ∧ K f0 ≠ 0 ∧ (cZ (f0 / 2) = 0 ∧ stM Lo Hi f0 = stM Lo Hi (xr w) ∧ ¬ Bar (stM Lo Hi w) (stM Lo Hi (xr w)) (stM Lo Hi (xr f0))) ∧ kk T Mn w = cC (w / 2) * 4096 + 1 + kk T Mn f0 := by
        rcases hor with ⟨z, -⟩ | ⟨-, f, q1, q2, q3, q4⟩
        · exact absurd z hnb
        · obtain ⟨q5, -⟩ := hD.2.2.2.1 f q1
          have hfk : f < 2 * k ∧ K f ≠ 0 := by
            by_cases q : f < 2 * k ∧ K f ≠ 0
            · exact q
            · exact absurd (if_neg q) q5
          rw [dmv f hfk.1 hfk.2] at q4
          replace q2 : stM Lo Hi (xr (xr f)) = stM Lo Hi (xr w) := q2
          replace q3 : ¬ Bar (stM Lo Hi (xr (xr w))) (stM Lo Hi (xr w)) (stM Lo Hi (xr f)) := q3
          rw [xr_xr] at q2 q3
          exact ⟨f, hfk.1, hfk.2, ⟨(hD.1 f q5).1.2, q2, q3⟩, q4⟩
      have low : ∀ f, f < 2 * k → K f ≠ 0 → stM Lo Hi f = stM Lo Hi (xr w) → ¬ Bar (stM Lo Hi w) (stM Lo Hi (xr w)) (stM Lo Hi (xr f)) → kk T Mn f0 ≤ kk T Mn f := fun f a1 a2 a3 a4 => by
        have := (hD.2.2.1 f w (hall f a1 a2) ⟨k3, ho⟩ (by show stM Lo Hi (xr w) = stM Lo Hi (xr (xr f)); rw [xr_xr]; exact a3.symm) hnb (by show ¬ Bar (stM Lo Hi (xr (xr w))) (stM Lo Hi (xr w)) (stM Lo Hi (xr f)); rw [xr_xr]; exact a4)).2
        rw [dmv f a1 a2, dmv w k3 k4] at this
        replace this : kk T Mn w ≤ cC (w / 2) * 4096 + 1 + kk T Mn f := this
        omega
      refine next_l h hB hN hch hT hM hK1 k3 (fun x6 hbst => ?_) N 0 (-1) x7 (by omega) (by omega) (Or.inl ⟨rfl, fun w' z => by have := z.1; omega⟩) hnx
      rcases hbst with ⟨-, z⟩ | ⟨f, ⟨p1, p2, p3, p4, p5⟩, p6, p7⟩
      · exact absurd ⟨g1, g3.1, g3.2.1, g2, g3.2.2⟩ (z f0)
      · subst p6
        have ef : kk T Mn f = kk T Mn f0 := by
          have a1 := low f p1 p4 p3 p5
          have a2 := p7 f0 ⟨g1, g3.1, g3.2.1, g2, g3.2.2⟩
          omega
        have hlt := mu_lt (D := DM k K T Mn) (w := kk T Mn f) (by rw [ef]; omega) k3 (dmv w k3 k4) (kpos w k3 k4)
        have hps := mu_pos (D := DM k K T Mn) p1 (dmv f p1 p4) (kpos f p1 p4)
        have hxf := h.st (xr_lt p1)
        refine end_s (by omega) ⟨vp_in_nI (by omega) (by omega), ?_⟩
        rw [nI_clamp (by omega), aI_upd, show nI (j + 2) + (1 : Int32) = nI (j + 1 + 2) from nI_1 _]
        have yk : ∀ i, i ≤ j + 1 → va_up Y (j + 2) (stM Lo Hi (xr f)) i = Y i := fun i hi => va_up_ne _ _ (by omega)
        have y2 : va_up Y (j + 2) (stM Lo Hi (xr f)) (j + 1 + 1) = stM Lo Hi (xr f) := va_up_self _ _ _
        have rk : ∀ i, i ≤ j → va_up rs (j + 1) (kk T Mn f) i = rs i := fun i hi => va_up_ne _ _ (by omega)
        refine ih (j + 1) f (va_up Y (j + 2) (stM Lo Hi (xr f))) (va_up rs (j + 1) (kk T Mn f)) (by omega) (by omega) p1 p4 (by rw [yk (j + 1) (by omega), p3]; exact k6) y2.symm (va_up_self _ _ _) (by rw [yk 0 (by omega)]; exact k8) (by rw [rk 0 (by omega)]; exact k9) (fun i hi => ?_) (fun _ => ?_) (fun y hy hbar => ?_)
        · rw [yk i (by omega), yk (i + 1) (by omega), rk i (by omega)]
          by_cases c : i = j
          · subst c
            rw [va_up_self, k7]
            refine ⟨kpos w k3 k4, ⟨w, k3, k5, k6, dmv w k3 k4⟩, fun z => ?_, fun y hy hb2 => k12 y (by rw [k7]; exact hy) (fun z => ?_), by rw [cs2, ef]; exact g4⟩
            · rw [yk (i - 1) (by omega)]; exact k11 z
            · have := hb2 z; rw [yk (i - 1) (by omega)] at this; exact this
          · rw [rk (i + 1) (by omega)]
            obtain ⟨u1, u2, u3, u4, u5⟩ := k10 i (by omega)
            refine ⟨u1, u2, fun z => ?_, fun y hy hb2 => u4 y hy (fun z => ?_), u5⟩
            · rw [yk (i - 1) (by omega)]; exact u3 z
            · have := hb2 z; rw [yk (i - 1) (by omega)] at this; exact this
        · rw [show j + 1 - 1 = j by omega, yk j (by omega), yk (j + 1) (by omega), y2, ← k5, ← k6]
          exact p5
        · rw [y2]
          rw [yk (j + 1) (by omega), va_up_self] at hy
          obtain ⟨f', r1, r2, r3, r4⟩ := hy
          have hb3 := hbar (by omega)
          rw [show j + 1 - 1 = j by omega, yk j (by omega), yk (j + 1) (by omega), ← k5, ← k6, ← r3] at hb3
          have hfk : K f' ≠ 0 := fun z => by
            have : DM k K T Mn f' = 0 := if_neg (fun y => y.2 z)
            rw [this] at r4
            exact kpos f p1 p4 r4.symm
          rw [dmv f' r1 hfk] at r4
          have hof : cZ (f' / 2) = 0 := (hD.1 f' (by rw [dmv f' r1 hfk]; exact kpos f' r1 hfk)).1.2
          have := p7 f' ⟨r1, hof, by rw [r2]; exact k6.symm, hfk, hb3⟩
          omega
theorem mroute_s {N n k q : Nat} {Lo Hi cC cZ Bm T Mn K A Y : Nat → Nat} {Cs : Nat → Nat → Int32} {Bar : Nat → Nat → Nat → Prop} {vHN vL x1 x2 : Int32} {vF vX : Nat → Int32} {post : Int64 → Int32 → Int32 → (Nat → Int64) → (Nat → Int32) → (Nat → Int32) → (Nat → Int32) → (Nat → Int32) → (Nat → Int32) → (Nat → Int32) → Prop} (h : MT n k Lo Hi cC cZ Cs) (hC : CS n Cs) (hB : BT n q Bm Bar) (hN : 4001 < N) (hT : ∀ j, T j < 2 ^ 63) (hM : ∀ j, Mn j < 4096) (hK1 : ∀ w, K w ≤ 1)
    (hbad : ¬ (isN n x1 ∧ isN n x2) → post (-14) vHN 0 (aL T) (aI Mn) (aI K) vF vX (aI A) (aI Y)) (hself : ∀ a, a < n → x1 = nI a → x2 = nI a → post 0 vHN (nI 1) (aL T) (aI Mn) (aI K) vF vX (aI A) (aI (va_up Y 0 a)))
    (hgo : ∀ a b, a < n → b < n → a ≠ b → x1 = nI a → x2 = nI b → ∀ (T' Mn' K' A' Y' D : Nat → Nat) (vF' vX' : Nat → Int32) (dn : Nat → Prop) (M : Nat) (r : Int64) (L : Nat), (∀ j, T' j < 2 ^ 63) → (∀ j, Mn' j < 4096) → (∀ w, K' w ≤ 1) → DInv b (fun e => stM Lo Hi (xr e)) (fun e => stM Lo Hi (xr (xr e))) (fun w => w < 2 * k ∧ cZ (w / 2) = 0) (fun w => cC (w / 2) * 4096 + 1) (fun x y z => Bar z y x) D dn M → (∀ e, D e ≠ 0 → dn e) →
      ((∃ v rs, v ≠ 0 ∧ r = lN (v / 4096) ∧ L ≤ 4001 ∧ Way (VM k Lo Hi D) (fun x y => wC (Cs y x)) Bar L Y' rs ∧ Y' 0 = a ∧ rs 0 = v ∧ (∃ w, w < 2 * k ∧ D w = v ∧ stM Lo Hi w = a) ∧ ∀ w, w < 2 * k → D w ≠ 0 → stM Lo Hi w = a → v ≤ D w) ∨ (r = -3 ∧ L = 0 ∧ ∀ w, w < 2 * k → D w ≠ 0 → stM Lo Hi w ≠ a)) → post r 0 (nI L) (aL T') (aI Mn') (aI K') vF' vX' (aI A') (aI Y')) :
    w_X5_route N (nI n) (nI k) (nI q) vHN vL (aI Lo) (aI Hi) (aI cC) (aI cZ) (aI Bm) (aL T) (aI Mn) (aI K) vF vX (aI A) (aI Y) x1 x2 post := by
  obtain ⟨n1, n2, n3⟩ := h.1
  unfold w_X5_route
  refine isNode_s (by omega) (fun a ha ea => ⟨fun z => absurd z (by decide), fun _ => ?_⟩) (fun hz => ⟨fun _ => hbad (fun z => hz z.1), fun z => absurd rfl z⟩)
  refine isNode_s (by omega) (fun b hb eb => ⟨fun _ => ⟨fun hne => ?_, fun he => ?_⟩, fun z => absurd z (by decide)⟩) (fun hz => ⟨fun z => absurd rfl z, fun _ => hbad (fun z => hz z.2)⟩)
  · subst ea eb
    have hab : a ≠ b := fun z => hne (by rw [z])
    refine mspread_s h hB hN hb hT hM hK1 (fun T' Mn' K' A' vF' vX' dn M tk htk hch hS => ⟨vp_in_nI (by omega) (by omega), fun x4 e4 => ?_⟩)
    obtain ⟨s1, s2, s3, s4, s5, s6, s7, s8, s9, s10⟩ := hS
    have hall : ∀ w, w < 2 * k → K' w ≠ 0 → dn w := fun w p r => by
      by_cases c : dn w
      · exact c
      · obtain ⟨i, hi, _⟩ := (s3 w).mpr ⟨p, r, c⟩
        omega
    have dmv : ∀ w, w < 2 * k → K' w ≠ 0 → DM k K' T' Mn' w = kk T' Mn' w := fun w a b => if_pos ⟨a, b⟩
    have dnz : ∀ w, DM k K' T' Mn' w ≠ 0 → w < 2 * k ∧ K' w ≠ 0 := fun w z => by
      by_cases q : w < 2 * k ∧ K' w ≠ 0
      · exact q
      · exact absurd (if_neg q) z
    have kpos : ∀ w, w < 2 * k → K' w ≠ 0 → kk T' Mn' w ≠ 0 := fun w a b => by have := (s7 w a b).2.2; unfold kk; omega
    have hnx := hch.1 a ha
    rw [nI_clamp (by omega)] at e4
    rw [← e4] at hnx
    refine first_l (a := a) h hch s8 s9 s10 (fun x3 hbst => ?_) N 0 (-1) x4 (by omega) (by omega) (Or.inl ⟨rfl, fun w' z => by have := z.1; omega⟩) hnx
    rcases hbst with ⟨z1, z2⟩ | ⟨w, ⟨p1, p2, p3, p4⟩, p5, p6⟩
    · subst z1
      refine ⟨fun z => absurd z (by decide), fun _ => hgo a b ha hb hab rfl rfl T' Mn' K' A' Y (DM k K' T' Mn') vF' vX' dn M (-3) 0 s8 s9 s10 s1 (fun e he => hall e (dnz e he).1 (dnz e he).2) (Or.inr ⟨rfl, rfl, fun w hw hd hs => ?_⟩)⟩
      exact z2 w ⟨hw, (s1.1 w hd).1.2, hs, (dnz w hd).2⟩
    · subst p5
      have hxw := h.st (xr_lt p1)
      refine ⟨fun _ => ⟨vp_in_nI (by omega) (by omega), fun y hy => ⟨vp_in_nI (n := 0) (by omega) (by omega), end_s (by omega) ⟨vp_in_nI (n := 1) (by omega) (by omega), ?_⟩⟩⟩, fun z => absurd (nI_pos' (by omega)) z⟩
      have eY : upd (upd (aI Y) (0 : Int32).toNatClampNeg (nI a)) (1 : Int32).toNatClampNeg (nI (stM Lo Hi (xr w))) = aI (va_up (va_up Y 0 a) 1 (stM Lo Hi (xr w))) := by
        rw [show upd (aI Y) (0 : Int32).toNatClampNeg (nI a) = aI (va_up Y 0 a) from aI_upd Y 0 a]
        exact aI_upd _ 1 _
      rw [eY, show (2 : Int32) = nI (0 + 2) from rfl]
      rw [nI_clamp (by omega)] at hy
      have hmu := mu_le (DM k K' T' Mn') (2 * k) (kk T' Mn' w)
      have b9 := s9 w
      have eT : y = lN (kk T' Mn' w / 4096) := by
        rw [hy]
        show lN (T' w) = _
        unfold kk
        rw [show (T' w * 4096 + Mn' w) / 4096 = T' w by omega]
      subst eT
      refine mway_l (M := M) (dn := dn) h hC hB (by omega) hb hch s8 s9 s10 (fun w a b => (s7 w a b).2.2) s1 hall (kk T' Mn' w) a (fun L Y' rs w1 w2 w3 w4 => ?_) N 0 w _ (fun _ => kk T' Mn' w) (by omega) (by omega) p1 p4 (by rw [va_up_ne _ _ (by omega), va_up_self]; exact p3) (va_up_self _ _ _).symm rfl (by rw [va_up_ne _ _ (by omega), va_up_self]) rfl (fun i hi => by omega) (fun z => by omega) (fun y hy _ => ?_)
      · refine hgo a b ha hb hab rfl rfl T' Mn' K' A' Y' (DM k K' T' Mn') vF' vX' dn M _ L s8 s9 s10 s1 (fun e he => hall e (dnz e he).1 (dnz e he).2) (Or.inl ⟨kk T' Mn' w, rs, kpos w p1 p4, rfl, w2, w1, w3, w4, ⟨w, p1, dmv w p1 p4, p3⟩, fun w' hw' hd hs => ?_⟩)
        have q := dnz w' hd
        rw [dmv w' q.1 q.2]
        have := p6 w' ⟨q.1, (s1.1 w' hd).1.2, hs, q.2⟩
        omega
      · rw [va_up_self]
        rw [va_up_ne _ _ (by omega), va_up_self] at hy
        obtain ⟨f', r1, r2, r3, r4⟩ := hy
        have q := dnz f' (by rw [r4]; exact kpos w p1 p4)
        have := p6 f' ⟨q.1, (s1.1 f' (by rw [r4]; exact kpos w p1 p4)).1.2, r2, q.2⟩
        rw [dmv f' q.1 q.2] at r4
        omega
  · subst ea eb
    have hab : a = b := nI_inj (n := n) (by omega) ha hb he
    subst hab
    have e1 : upd (aI Y) (0 : Int32).toNatClampNeg (nI a) = aI (va_up Y 0 a) := aI_upd Y 0 a
    rw [e1]
    exact ⟨vp_in_nI (n := 0) (by omega) (by omega), hself a ha rfl rfl⟩
