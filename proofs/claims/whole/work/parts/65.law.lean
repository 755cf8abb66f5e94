/-! the law: both sides hold one abstract state, call by call -/
def ST (n k q L : Nat) (Cs : Nat → Nat → Int32) (Bar : Nat → Nat → Nat → Prop) (E F Kt W Y Lo Hi cC cZ Bm T Mn Kk Rw : Nat → Nat) (vC : Nat → Int32) : Prop :=
  RT n (2 * k) E F vC Cs ∧ CS n Cs ∧ TT n q Kt Bar ∧ MT n k Lo Hi cC cZ Cs ∧ BT n q Bm Bar ∧ (∀ j, W j < 2 ^ 63) ∧ (∀ j, T j < 2 ^ 63) ∧ (∀ j, Mn j < 4096) ∧ (∀ j, Kk j ≤ 1) ∧ L ≤ 4001 ∧ ∀ j, j < L → Y j = Rw j
def KH (k18 : Int32 → (Nat → Int32) → Int32 → Int32 → Int32 → (Nat → Int32) → (Nat → Int32) → (Nat → Int32) → Int32 → (Nat → Int32) → Int32 → (Nat → Int64) → (Nat → Int32) → (Nat → Int32) → (Nat → Int32) → Int32 → Int32 → Int32 → Int32 → Int32 → (Nat → Int32) → (Nat → Int32) → (Nat → Int32) → (Nat → Int32) → (Nat → Int32) → (Nat → Int64) → (Nat → Int32) → (Nat → Int32) → (Nat → Int32) → (Nat → Int32) → (Nat → Int32) → (Nat → Int32) → Int32 → Prop) (i : Nat) : Prop := ∀ (n k q L : Nat) (Cs : Nat → Nat → Int32) (Bar : Nat → Nat → Nat → Prop) (E F Kt W A Q Y Lo Hi cC cZ Bm T Mn Kk Ah Rw : Nat → Nat) (vC vsU vmF vmX : Nat → Int32) (vsB vhN vmHN : Int32), ST n k q L Cs Bar E F Kt W Y Lo Hi cC cZ Bm T Mn Kk Rw vC → k18 (nI L) (aI Y) vsB (nI n) (nI (2 * k)) (aI E) vC (aI F) (nI q) (aI Kt) vhN (aL W) (aI A) (aI Q) vsU (nI n) (nI k) (nI q) vmHN (nI L) (aI Lo) (aI Hi) (aI cC) (aI cZ) (aI Bm) (aL T) (aI Mn) (aI Kk) vmF vmX (aI Ah) (aI Rw) (nI (i + 5))
theorem fin5 {r r' : Int32} {i : Nat} {P : Int32 → Prop} (e : r = r') (h : P (nI (i + 5))) : (r = r' → ∀ x : Int32, x = nI i + (5 : Int32) → P x) ∧ (¬ (r = r') → False) :=
  ⟨fun _ x ex => by rw [ex, show nI i + (5 : Int32) = nI (i + 5) from nI_add i 5]; exact h, fun z => z e⟩
theorem fin5L {r r' : Int64} {i : Nat} {P : Int32 → Prop} (e : r = r') (h : P (nI (i + 5))) : ((lg_cmp r r') = (0 : Int32) → ∀ x : Int32, x = nI i + (5 : Int32) → P x) ∧ (¬ ((lg_cmp r r') = (0 : Int32)) → False) :=
  ⟨fun _ x ex => by rw [ex, show nI i + (5 : Int32) = nI (i + 5) from nI_add i 5]; exact h, fun z => z ((lg_cmp_eq r r').mpr e)⟩
theorem CS_empty {n : Nat} : CS n (fun _ _ => 0) := ⟨fun _ _ => rfl, fun _ => rfl, fun _ _ h => absurd rfl h⟩
theorem MT_empty {n : Nat} {Lo Hi cC cZ : Nat → Nat} (h1 : 1 ≤ n) (h2 : n ≤ 300) : MT n 0 Lo Hi cC cZ (fun _ _ => 0) := ⟨⟨h1, h2, by omega⟩, fun i j _ h => by omega, fun r h => by omega, fun a b _ _ h => absurd rfl h⟩
theorem BT_empty {n : Nat} {Bm : Nat → Nat} (h2 : n ≤ 300) : BT n 0 Bm (fun _ _ _ => False) := ⟨⟨h2, by omega⟩, fun t h => by omega, fun a b c h => h.elim, fun s t h => by omega⟩
theorem CS_rd {n k : Nat} {Cs : Nat → Nat → Int32} {x1 x2 x3 : Int32} (hC : CS n Cs) (hn : n ≤ 300) : CS n (rdF n k Cs x1 x2 x3).2.2 := by
  by_cases hg : isN n x1 ∧ isN n x2 ∧ x1 ≠ x2
  · obtain ⟨⟨a, ha, ea⟩, ⟨b, hb, eb⟩, hne⟩ := hg
    subst ea eb
    have hab : a ≠ b := fun z => hne (by rw [z])
    rw [rdF_in hn ha hb hab]
    by_cases hc : x3 < 1 ∨ ¬ x3 ≤ 1000000000
    · rw [if_pos hc]; exact hC
    · rw [if_neg hc]
      have c2 : x3 ≤ 1000000000 := by
        by_cases q : x3 ≤ 1000000000
        · exact q
        · exact absurd (Or.inr q) hc
      obtain ⟨c, h1, h2, e⟩ := cost_of (fun z => hc (Or.inl z)) c2
      by_cases h0 : Cs a b = 0
      · rw [if_pos h0]
        by_cases hk : k < 2000
        · rw [if_pos hk]; exact hC.set ha hb hab h1 h2 (Or.inl e)
        · rw [if_neg hk]; exact hC
      · rw [if_neg h0]
        by_cases hs : 0 ≤ Cs a b
        · rw [if_pos hs]; exact hC.set ha hb hab h1 h2 (Or.inl e)
        · rw [if_neg hs]; exact hC.set ha hb hab h1 h2 (Or.inr (by rw [e]))
  · rw [rdF_bad hg]; exact hC
theorem CS_cl {n : Nat} {Cs : Nat → Nat → Int32} {x1 x2 x3 : Int32} (hC : CS n Cs) (hn : n ≤ 300) : CS n (clF n Cs x1 x2 x3).2 := by
  unfold clF
  by_cases hg : isN n x1 ∧ isN n x2 ∧ Cs x1.toNatClampNeg x2.toNatClampNeg ≠ 0 ∧ (if 0 ≤ Cs x1.toNatClampNeg x2.toNatClampNeg then (0 : Int32) else 1) ≠ x3
  · rw [if_pos hg]
    obtain ⟨⟨a, ha, ea⟩, ⟨b, hb, eb⟩, h0, -⟩ := hg
    subst ea eb
    rw [nI_clamp (by omega), nI_clamp (by omega)] at h0 ⊢
    have hab : a ≠ b := fun z => h0 (by rw [z]; exact hC.2.1 b)
    obtain ⟨-, -, c, h1, h2, e⟩ := hC.2.2 a b h0
    refine hC.set ha hb hab h1 h2 ?_
    rcases e with e | e
    · exact Or.inr (by rw [e])
    · exact Or.inl (by rw [e]; exact Int32.neg_neg)
  · rw [if_neg hg]; exact hC
theorem lkC_u {n : Nat} {Cs : Nat → Nat → Int32} {x1 x2 v v' : Int32} (h : lkC n Cs x1 x2 v) (h' : lkC n Cs x1 x2 v') : v = v' := by
  by_cases h1 : isN n x1
  · by_cases h2 : isN n x2
    · obtain ⟨a, ha, ea⟩ := h1
      obtain ⟨b, hb, eb⟩ := h2
      rw [h.1 a b ha hb ea eb, h'.1 a b ha hb ea eb]
    · rw [h.2 (Or.inr h2), h'.2 (Or.inr h2)]
  · rw [h.2 (Or.inl h1), h'.2 (Or.inl h1)]
theorem lN_nn {a : Nat} (h : a < 2 ^ 63) : ¬ lN a < (0 : Int64) := fun z => absurd ((pk_lLT h (b := 0) (by omega)).mp z) (by omega)
theorem L_size {N Ls i : Nat} {xs : Nat → Int32} {k18 : Int32 → (Nat → Int32) → Int32 → Int32 → Int32 → (Nat → Int32) → (Nat → Int32) → (Nat → Int32) → Int32 → (Nat → Int32) → Int32 → (Nat → Int64) → (Nat → Int32) → (Nat → Int32) → (Nat → Int32) → Int32 → Int32 → Int32 → Int32 → Int32 → (Nat → Int32) → (Nat → Int32) → (Nat → Int32) → (Nat → Int32) → (Nat → Int32) → (Nat → Int64) → (Nat → Int32) → (Nat → Int32) → (Nat → Int32) → (Nat → Int32) → (Nat → Int32) → (Nat → Int32) → Int32 → Prop} {n k q L : Nat} {Cs : Nat → Nat → Int32} {Bar : Nat → Nat → Nat → Prop} {E F Kt W A Q Y Lo Hi cC cZ Bm T Mn Kk Ah Rw : Nat → Nat} {vC vsU vmF vmX : Nat → Int32} {vsB vhN vmHN : Int32} (hN : 5000 ≤ N) (hLs : Ls ≤ 2560) (hi : i + 5 ≤ Ls) (hK : KH k18 i) (hS : ST n k q L Cs Bar E F Kt W Y Lo Hi cC cZ Bm T Mn Kk Rw vC) : w_L_c84 N Ls xs k18 (nI L) (aI Y) vsB (nI n) (nI (2 * k)) (aI E) vC (aI F) (nI q) (aI Kt) vhN (aL W) (aI A) (aI Q) vsU (nI n) (nI k) (nI q) vmHN (nI L) (aI Lo) (aI Hi) (aI cC) (aI cZ) (aI Bm) (aL T) (aI Mn) (aI Kk) vmF vmX (aI Ah) (aI Rw) (nI i) := by
  obtain ⟨s1, s2, s3, s4, s5, s6, s7, s8, s9, s10, s11⟩ := id hS
  obtain ⟨n1, n2, n3⟩ := s1.1
  unfold w_L_c84
  rw [show nI i + (1 : Int32) = nI (i + 1) from nI_add i 1, nI_clamp (by omega)]
  refine ⟨vp_in_nI (by omega) (by omega), ?_⟩
  generalize xs (i + 1) = x1
  refine size_X (by omega) (fun hb => ?_) (fun n' F' h1 h2 e hF => ?_)
  · have g := hK n k q L Cs Bar E F Kt W A Q Y Lo Hi cC cZ Bm T Mn Kk Ah Rw vC vsU vmF vmX vsB vhN vmHN hS
    refine ⟨fun _ => fin5 rfl g, fun z1 => ⟨fun z2 => ?_, fun _ => fin5 rfl g⟩⟩
    rcases hb with hb | hb
    · exact absurd hb z1
    · exact absurd z2 hb
  · subst e
    refine ⟨fun z => ?_, fun _ => ⟨fun _ => fin5 rfl ?_, fun z => ?_⟩⟩
    · exact absurd ((nI_ltI (a := n') (b := 1) (by omega) (by omega)).mp z) (by omega)
    · exact hK n' 0 0 0 (fun _ _ => 0) (fun _ _ _ => False) E F' Kt W A Q Y Lo Hi cC cZ Bm T Mn Kk Ah Rw vC vsU vmF vmX vsB vhN vmHN ⟨RT_empty h1 h2 hF, CS_empty, TT_empty h2, MT_empty h1 h2, BT_empty h2, s6, s7, s8, s9, by omega, fun j hj => by omega⟩
    · exact absurd ((nI_leI (a := n') (b := 300) (by omega) (by omega)).mpr h2) z
theorem L_road {N Ls i : Nat} {xs : Nat → Int32} {k18 : Int32 → (Nat → Int32) → Int32 → Int32 → Int32 → (Nat → Int32) → (Nat → Int32) → (Nat → Int32) → Int32 → (Nat → Int32) → Int32 → (Nat → Int64) → (Nat → Int32) → (Nat → Int32) → (Nat → Int32) → Int32 → Int32 → Int32 → Int32 → Int32 → (Nat → Int32) → (Nat → Int32) → (Nat → Int32) → (Nat → Int32) → (Nat → Int32) → (Nat → Int64) → (Nat → Int32) → (Nat → Int32) → (Nat → Int32) → (Nat → Int32) → (Nat → Int32) → (Nat → Int32) → Int32 → Prop} {n k q L : Nat} {Cs : Nat → Nat → Int32} {Bar : Nat → Nat → Nat → Prop} {E F Kt W A Q Y Lo Hi cC cZ Bm T Mn Kk Ah Rw : Nat → Nat} {vC vsU vmF vmX : Nat → Int32} {vsB vhN vmHN : Int32} (hN : 5000 ≤ N) (hLs : Ls ≤ 2560) (hi : i + 5 ≤ Ls) (hK : KH k18 i) (hS : ST n k q L Cs Bar E F Kt W Y Lo Hi cC cZ Bm T Mn Kk Rw vC) : w_L_c107 N Ls xs k18 (nI L) (aI Y) vsB (nI n) (nI (2 * k)) (aI E) vC (aI F) (nI q) (aI Kt) vhN (aL W) (aI A) (aI Q) vsU (nI n) (nI k) (nI q) vmHN (nI L) (aI Lo) (aI Hi) (aI cC) (aI cZ) (aI Bm) (aL T) (aI Mn) (aI Kk) vmF vmX (aI Ah) (aI Rw) (nI i) := by
  obtain ⟨s1, s2, s3, s4, s5, s6, s7, s8, s9, s10, s11⟩ := id hS
  obtain ⟨n1, n2, n3⟩ := s1.1
  unfold w_L_c107
  rw [show nI i + (1 : Int32) = nI (i + 1) from nI_add i 1, show nI i + (2 : Int32) = nI (i + 2) from nI_add i 2, show nI i + (3 : Int32) = nI (i + 3) from nI_add i 3, nI_clamp (by omega), nI_clamp (by omega), nI_clamp (by omega)]
  refine ⟨vp_in_nI (by omega) (by omega), vp_in_nI (by omega) (by omega), vp_in_nI (by omega) (by omega), ?_⟩
  generalize xs (i + 1) = x1
  generalize xs (i + 2) = x2
  generalize xs (i + 3) = x3
  refine road_X s1 s2 (by omega) (fun E' F' vC' hR => ?_)
  refine mroad_s s4 s2 (by omega) (fun Lo' Hi' cC' cZ' hM => fin5 rfl ?_)
  exact hK _ _ _ _ _ _ _ _ _ _ _ _ _ _ _ _ _ _ _ _ _ _ _ _ _ _ _ _ _ _ ⟨hR, CS_rd s2 n2, s3, hM, s5, s6, s7, s8, s9, s10, s11⟩
theorem L_close {N Ls i : Nat} {xs : Nat → Int32} {k18 : Int32 → (Nat → Int32) → Int32 → Int32 → Int32 → (Nat → Int32) → (Nat → Int32) → (Nat → Int32) → Int32 → (Nat → Int32) → Int32 → (Nat → Int64) → (Nat → Int32) → (Nat → Int32) → (Nat → Int32) → Int32 → Int32 → Int32 → Int32 → Int32 → (Nat → Int32) → (Nat → Int32) → (Nat → Int32) → (Nat → Int32) → (Nat → Int32) → (Nat → Int64) → (Nat → Int32) → (Nat → Int32) → (Nat → Int32) → (Nat → Int32) → (Nat → Int32) → (Nat → Int32) → Int32 → Prop} {n k q L : Nat} {Cs : Nat → Nat → Int32} {Bar : Nat → Nat → Nat → Prop} {E F Kt W A Q Y Lo Hi cC cZ Bm T Mn Kk Ah Rw : Nat → Nat} {vC vsU vmF vmX : Nat → Int32} {vsB vhN vmHN : Int32} (hN : 5000 ≤ N) (hLs : Ls ≤ 2560) (hi : i + 5 ≤ Ls) (hK : KH k18 i) (hS : ST n k q L Cs Bar E F Kt W Y Lo Hi cC cZ Bm T Mn Kk Rw vC) : w_L_c150 N Ls xs k18 (nI L) (aI Y) vsB (nI n) (nI (2 * k)) (aI E) vC (aI F) (nI q) (aI Kt) vhN (aL W) (aI A) (aI Q) vsU (nI n) (nI k) (nI q) vmHN (nI L) (aI Lo) (aI Hi) (aI cC) (aI cZ) (aI Bm) (aL T) (aI Mn) (aI Kk) vmF vmX (aI Ah) (aI Rw) (nI i) := by
  obtain ⟨s1, s2, s3, s4, s5, s6, s7, s8, s9, s10, s11⟩ := id hS
  obtain ⟨n1, n2, n3⟩ := s1.1
  unfold w_L_c150
  rw [show nI i + (1 : Int32) = nI (i + 1) from nI_add i 1, show nI i + (2 : Int32) = nI (i + 2) from nI_add i 2, show nI i + (3 : Int32) = nI (i + 3) from nI_add i 3, nI_clamp (by omega), nI_clamp (by omega), nI_clamp (by omega)]
  refine ⟨vp_in_nI (by omega) (by omega), vp_in_nI (by omega) (by omega), vp_in_nI (by omega) (by omega), ?_⟩
  generalize xs (i + 1) = x1
  generalize xs (i + 2) = x2
  generalize xs (i + 3) = x3
  refine ⟨fun z0 => close_X s1 s2 (by omega) (fun vC' hR => ⟨fun _ => ?_, fun z => absurd z0 z⟩), fun z0 => close_X s1 s2 (by omega) (fun vC' hR => ⟨fun z => absurd z z0, fun _ => ?_⟩)⟩
  · exact mclose_s s4 s2 (by omega) (Or.inl rfl) (fun cZ' hM => fin5 rfl (hK _ _ _ _ _ _ _ _ _ _ _ _ _ _ _ _ _ _ _ _ _ _ _ _ _ _ _ _ _ _ ⟨hR, CS_cl s2 n2, s3, hM, s5, s6, s7, s8, s9, s10, s11⟩))
  · exact mclose_s s4 s2 (by omega) (Or.inr rfl) (fun cZ' hM => fin5 rfl (hK _ _ _ _ _ _ _ _ _ _ _ _ _ _ _ _ _ _ _ _ _ _ _ _ _ _ _ _ _ _ ⟨hR, CS_cl s2 n2, s3, hM, s5, s6, s7, s8, s9, s10, s11⟩))
theorem L_cost {N Ls i : Nat} {xs : Nat → Int32} {k18 : Int32 → (Nat → Int32) → Int32 → Int32 → Int32 → (Nat → Int32) → (Nat → Int32) → (Nat → Int32) → Int32 → (Nat → Int32) → Int32 → (Nat → Int64) → (Nat → Int32) → (Nat → Int32) → (Nat → Int32) → Int32 → Int32 → Int32 → Int32 → Int32 → (Nat → Int32) → (Nat → Int32) → (Nat → Int32) → (Nat → Int32) → (Nat → Int32) → (Nat → Int64) → (Nat → Int32) → (Nat → Int32) → (Nat → Int32) → (Nat → Int32) → (Nat → Int32) → (Nat → Int32) → Int32 → Prop} {n k q L : Nat} {Cs : Nat → Nat → Int32} {Bar : Nat → Nat → Nat → Prop} {E F Kt W A Q Y Lo Hi cC cZ Bm T Mn Kk Ah Rw : Nat → Nat} {vC vsU vmF vmX : Nat → Int32} {vsB vhN vmHN : Int32} (hN : 5000 ≤ N) (hLs : Ls ≤ 2560) (hi : i + 5 ≤ Ls) (hK : KH k18 i) (hS : ST n k q L Cs Bar E F Kt W Y Lo Hi cC cZ Bm T Mn Kk Rw vC) : w_L_c209 N Ls xs k18 (nI L) (aI Y) vsB (nI n) (nI (2 * k)) (aI E) vC (aI F) (nI q) (aI Kt) vhN (aL W) (aI A) (aI Q) vsU (nI n) (nI k) (nI q) vmHN (nI L) (aI Lo) (aI Hi) (aI cC) (aI cZ) (aI Bm) (aL T) (aI Mn) (aI Kk) vmF vmX (aI Ah) (aI Rw) (nI i) := by
  obtain ⟨s1, s2, s3, s4, s5, s6, s7, s8, s9, s10, s11⟩ := id hS
  obtain ⟨n1, n2, n3⟩ := s1.1
  unfold w_L_c209
  rw [show nI i + (1 : Int32) = nI (i + 1) from nI_add i 1, show nI i + (2 : Int32) = nI (i + 2) from nI_add i 2, nI_clamp (by omega), nI_clamp (by omega)]
  refine ⟨vp_in_nI (by omega) (by omega), vp_in_nI (by omega) (by omega), ?_⟩
  generalize xs (i + 1) = x1
  generalize xs (i + 2) = x2
  unfold w_X4_cost
  refine signedCost_s s1 (by omega) (fun v hv => ?_)
  refine mcost_s s4 s2 (by omega) (fun v' hv' => fin5 (lkC_u hv hv') ?_)
  exact hK n k q L Cs Bar E F Kt W A Q Y Lo Hi cC cZ Bm T Mn Kk Ah Rw vC vsU vmF vmX vsB vhN vmHN hS
theorem L_bar {N Ls i : Nat} {xs : Nat → Int32} {k18 : Int32 → (Nat → Int32) → Int32 → Int32 → Int32 → (Nat → Int32) → (Nat → Int32) → (Nat → Int32) → Int32 → (Nat → Int32) → Int32 → (Nat → Int64) → (Nat → Int32) → (Nat → Int32) → (Nat → Int32) → Int32 → Int32 → Int32 → Int32 → Int32 → (Nat → Int32) → (Nat → Int32) → (Nat → Int32) → (Nat → Int32) → (Nat → Int32) → (Nat → Int64) → (Nat → Int32) → (Nat → Int32) → (Nat → Int32) → (Nat → Int32) → (Nat → Int32) → (Nat → Int32) → Int32 → Prop} {n k q L : Nat} {Cs : Nat → Nat → Int32} {Bar : Nat → Nat → Nat → Prop} {E F Kt W A Q Y Lo Hi cC cZ Bm T Mn Kk Ah Rw : Nat → Nat} {vC vsU vmF vmX : Nat → Int32} {vsB vhN vmHN : Int32} (hN : 5000 ≤ N) (hLs : Ls ≤ 2560) (hi : i + 5 ≤ Ls) (hK : KH k18 i) (hS : ST n k q L Cs Bar E F Kt W Y Lo Hi cC cZ Bm T Mn Kk Rw vC) : w_L_c242 N Ls xs k18 (nI L) (aI Y) vsB (nI n) (nI (2 * k)) (aI E) vC (aI F) (nI q) (aI Kt) vhN (aL W) (aI A) (aI Q) vsU (nI n) (nI k) (nI q) vmHN (nI L) (aI Lo) (aI Hi) (aI cC) (aI cZ) (aI Bm) (aL T) (aI Mn) (aI Kk) vmF vmX (aI Ah) (aI Rw) (nI i) := by
  obtain ⟨s1, s2, s3, s4, s5, s6, s7, s8, s9, s10, s11⟩ := id hS
  obtain ⟨n1, n2, n3⟩ := s1.1
  unfold w_L_c242
  rw [show nI i + (1 : Int32) = nI (i + 1) from nI_add i 1, show nI i + (2 : Int32) = nI (i + 2) from nI_add i 2, show nI i + (3 : Int32) = nI (i + 3) from nI_add i 3, show nI i + (4 : Int32) = nI (i + 4) from nI_add i 4, nI_clamp (by omega), nI_clamp (by omega), nI_clamp (by omega), nI_clamp (by omega)]
  refine ⟨vp_in_nI (by omega) (by omega), vp_in_nI (by omega) (by omega), vp_in_nI (by omega) (by omega), vp_in_nI (by omega) (by omega), ?_⟩
  generalize xs (i + 1) = x1
  generalize xs (i + 2) = x2
  generalize xs (i + 3) = x3
  generalize xs (i + 4) = x4
  refine ⟨fun z0 => bar_X s3 (by omega) (Or.inl rfl) (fun K' hT => ⟨fun _ => ?_, fun z => absurd z0 z⟩), fun z0 => bar_X s3 (by omega) (Or.inr rfl) (fun K' hT => ⟨fun z => absurd z z0, fun _ => ?_⟩)⟩
  · exact mbar_s s5 (by omega) (Or.inl rfl) (fun Bm' hB => fin5 rfl (hK _ _ _ _ _ _ _ _ _ _ _ _ _ _ _ _ _ _ _ _ _ _ _ _ _ _ _ _ _ _ ⟨s1, s2, hT, s4, hB, s6, s7, s8, s9, s10, s11⟩))
  · exact mbar_s s5 (by omega) (Or.inr rfl) (fun Bm' hB => fin5 rfl (hK _ _ _ _ _ _ _ _ _ _ _ _ _ _ _ _ _ _ _ _ _ _ _ _ _ _ _ _ _ _ ⟨s1, s2, hT, s4, hB, s6, s7, s8, s9, s10, s11⟩))
theorem L_route {N Ls i : Nat} {xs : Nat → Int32} {k18 : Int32 → (Nat → Int32) → Int32 → Int32 → Int32 → (Nat → Int32) → (Nat → Int32) → (Nat → Int32) → Int32 → (Nat → Int32) → Int32 → (Nat → Int64) → (Nat → Int32) → (Nat → Int32) → (Nat → Int32) → Int32 → Int32 → Int32 → Int32 → Int32 → (Nat → Int32) → (Nat → Int32) → (Nat → Int32) → (Nat → Int32) → (Nat → Int32) → (Nat → Int64) → (Nat → Int32) → (Nat → Int32) → (Nat → Int32) → (Nat → Int32) → (Nat → Int32) → (Nat → Int32) → Int32 → Prop} {n k q L : Nat} {Cs : Nat → Nat → Int32} {Bar : Nat → Nat → Nat → Prop} {E F Kt W A Q Y Lo Hi cC cZ Bm T Mn Kk Ah Rw : Nat → Nat} {vC vsU vmF vmX : Nat → Int32} {vsB vhN vmHN : Int32} (hN : 5000 ≤ N) (hLs : Ls ≤ 2560) (hi : i + 5 ≤ Ls) (hK : KH k18 i) (hS : ST n k q L Cs Bar E F Kt W Y Lo Hi cC cZ Bm T Mn Kk Rw vC) : w_L_c311 N Ls xs k18 (nI L) (aI Y) vsB (nI n) (nI (2 * k)) (aI E) vC (aI F) (nI q) (aI Kt) vhN (aL W) (aI A) (aI Q) vsU (nI n) (nI k) (nI q) vmHN (nI L) (aI Lo) (aI Hi) (aI cC) (aI cZ) (aI Bm) (aL T) (aI Mn) (aI Kk) vmF vmX (aI Ah) (aI Rw) (nI i) := by
  obtain ⟨s1, s2, s3, s4, s5, s6, s7, s8, s9, s10, s11⟩ := id hS
  obtain ⟨n1, n2, n3⟩ := s1.1
  unfold w_L_c311
  rw [show nI i + (1 : Int32) = nI (i + 1) from nI_add i 1, show nI i + (2 : Int32) = nI (i + 2) from nI_add i 2, nI_clamp (by omega), nI_clamp (by omega)]
  refine ⟨vp_in_nI (by omega) (by omega), vp_in_nI (by omega) (by omega), ?_⟩
  generalize xs (i + 1) = x1
  generalize xs (i + 2) = x2
  refine route_X s1 s2 s3 (by omega) s6 (fun hb => ?_) (fun a ha e1 e2 => ?_) (fun a b ha hb hab e1 e2 v W' A' Q' vN' U' L1 Y1 hW' hFA hor => ?_)
  · refine mroute_s s4 s2 s5 (by omega) s7 s8 s9 (fun _ => fin5L rfl ?_) (fun a ha e1 e2 => absurd ⟨⟨a, ha, e1⟩, ⟨a, ha, e2⟩⟩ hb) (fun a b ha hb' _ e1 e2 => absurd ⟨⟨a, ha, e1⟩, ⟨b, hb', e2⟩⟩ hb)
    exact hK n k q 0 Cs Bar E F Kt W A Q Y Lo Hi cC cZ Bm T Mn Kk Ah Rw vC vsU vmF vmX vsB vhN vmHN ⟨s1, s2, s3, s4, s5, s6, s7, s8, s9, by omega, fun j hj => by omega⟩
  · refine mroute_s s4 s2 s5 (by omega) s7 s8 s9 (fun hb => absurd ⟨⟨a, ha, e1⟩, ⟨a, ha, e2⟩⟩ hb) (fun a' ha' e1' e2' => ?_) (fun a' b' ha' hb' hab' e1' e2' => absurd ?_ hab')
    · have q1 := nI_inj (n := n) (by omega) ha ha' (e1.symm.trans e1')
      subst q1
      refine fin5L rfl ?_
      exact hK n k q 1 Cs Bar E F Kt W A Q (va_up Y 0 a) Lo Hi cC cZ Bm T Mn Kk Ah (va_up Rw 0 a) vC vsU vmF vmX vsB vhN vmHN ⟨s1, s2, s3, s4, s5, s6, s7, s8, s9, by omega, fun j hj => by
        have q2 : j = 0 := by omega
        rw [q2, va_up_self, va_up_self]⟩
    · have q1 := nI_inj (n := n) (by omega) ha ha' (e1.symm.trans e1')
      have q2 := nI_inj (n := n) (by omega) ha hb' (e2.symm.trans e2')
      omega
  · refine mroute_s s4 s2 s5 (by omega) s7 s8 s9 (fun hz => absurd ⟨⟨a, ha, e1⟩, ⟨b, hb, e2⟩⟩ hz) (fun a' ha' e1' e2' => absurd ?_ hab) (fun a' b' ha' hb' hab' e1' e2' T' Mn' K' A2 Y2 D vF' vX' dn M r L2 hT' hM' hK' hD hall h3 => ?_)
    · have q1 := nI_inj (n := n) (by omega) ha ha' (e1.symm.trans e1')
      have q2 := nI_inj (n := n) (by omega) hb ha' (e2.symm.trans e2')
      omega
    · have q1 := nI_inj (n := n) (by omega) ha ha' (e1.symm.trans e1')
      have q2 := nI_inj (n := n) (by omega) hb hb' (e2.symm.trans e2')
      subst q1 q2
      obtain ⟨g1, g2, g3, g4⟩ := route_same s1 s2 s4 hFA hor hD hall h3
      subst g2
      refine fin5L g1 ?_
      exact hK _ _ _ _ _ _ _ _ _ _ _ _ _ _ _ _ _ _ _ _ _ _ _ _ _ _ _ _ _ _ ⟨s1, s2, s3, s4, s5, hW', hT', hM', hK', g3, g4⟩
theorem L_length {N Ls i : Nat} {xs : Nat → Int32} {k18 : Int32 → (Nat → Int32) → Int32 → Int32 → Int32 → (Nat → Int32) → (Nat → Int32) → (Nat → Int32) → Int32 → (Nat → Int32) → Int32 → (Nat → Int64) → (Nat → Int32) → (Nat → Int32) → (Nat → Int32) → Int32 → Int32 → Int32 → Int32 → Int32 → (Nat → Int32) → (Nat → Int32) → (Nat → Int32) → (Nat → Int32) → (Nat → Int32) → (Nat → Int64) → (Nat → Int32) → (Nat → Int32) → (Nat → Int32) → (Nat → Int32) → (Nat → Int32) → (Nat → Int32) → Int32 → Prop} {n k q L : Nat} {Cs : Nat → Nat → Int32} {Bar : Nat → Nat → Nat → Prop} {E F Kt W A Q Y Lo Hi cC cZ Bm T Mn Kk Ah Rw : Nat → Nat} {vC vsU vmF vmX : Nat → Int32} {vsB vhN vmHN : Int32} (hN : 5000 ≤ N) (hLs : Ls ≤ 2560) (hi : i + 5 ≤ Ls) (hK : KH k18 i) (hS : ST n k q L Cs Bar E F Kt W Y Lo Hi cC cZ Bm T Mn Kk Rw vC) : w_L_c345 N Ls xs k18 (nI L) (aI Y) vsB (nI n) (nI (2 * k)) (aI E) vC (aI F) (nI q) (aI Kt) vhN (aL W) (aI A) (aI Q) vsU (nI n) (nI k) (nI q) vmHN (nI L) (aI Lo) (aI Hi) (aI cC) (aI cZ) (aI Bm) (aL T) (aI Mn) (aI Kk) vmF vmX (aI Ah) (aI Rw) (nI i) := by
  obtain ⟨s1, s2, s3, s4, s5, s6, s7, s8, s9, s10, s11⟩ := id hS
  obtain ⟨n1, n2, n3⟩ := s1.1
  unfold w_L_c345
  exact fin5 rfl (hK n k q L Cs Bar E F Kt W A Q Y Lo Hi cC cZ Bm T Mn Kk Ah Rw vC vsU vmF vmX vsB vhN vmHN hS)
theorem L_node {N Ls i : Nat} {xs : Nat → Int32} {k18 : Int32 → (Nat → Int32) → Int32 → Int32 → Int32 → (Nat → Int32) → (Nat → Int32) → (Nat → Int32) → Int32 → (Nat → Int32) → Int32 → (Nat → Int64) → (Nat → Int32) → (Nat → Int32) → (Nat → Int32) → Int32 → Int32 → Int32 → Int32 → Int32 → (Nat → Int32) → (Nat → Int32) → (Nat → Int32) → (Nat → Int32) → (Nat → Int32) → (Nat → Int64) → (Nat → Int32) → (Nat → Int32) → (Nat → Int32) → (Nat → Int32) → (Nat → Int32) → (Nat → Int32) → Int32 → Prop} {n k q L : Nat} {Cs : Nat → Nat → Int32} {Bar : Nat → Nat → Nat → Prop} {E F Kt W A Q Y Lo Hi cC cZ Bm T Mn Kk Ah Rw : Nat → Nat} {vC vsU vmF vmX : Nat → Int32} {vsB vhN vmHN : Int32} (hN : 5000 ≤ N) (hLs : Ls ≤ 2560) (hi : i + 5 ≤ Ls) (hK : KH k18 i) (hS : ST n k q L Cs Bar E F Kt W Y Lo Hi cC cZ Bm T Mn Kk Rw vC) : w_L_c358 N Ls xs k18 (nI L) (aI Y) vsB (nI n) (nI (2 * k)) (aI E) vC (aI F) (nI q) (aI Kt) vhN (aL W) (aI A) (aI Q) vsU (nI n) (nI k) (nI q) vmHN (nI L) (aI Lo) (aI Hi) (aI cC) (aI cZ) (aI Bm) (aL T) (aI Mn) (aI Kk) vmF vmX (aI Ah) (aI Rw) (nI i) := by
  obtain ⟨s1, s2, s3, s4, s5, s6, s7, s8, s9, s10, s11⟩ := id hS
  obtain ⟨n1, n2, n3⟩ := s1.1
  unfold w_L_c358
  rw [show nI i + (1 : Int32) = nI (i + 1) from nI_add i 1, nI_clamp (by omega)]
  refine ⟨vp_in_nI (by omega) (by omega), ?_⟩
  generalize xs (i + 1) = x1
  have g := hK n k q L Cs Bar E F Kt W A Q Y Lo Hi cC cZ Bm T Mn Kk Ah Rw vC vsU vmF vmX vsB vhN vmHN hS
  unfold w_X4_node w_X5_node
  have same : ¬ (x1 < 0) → ¬ (nI L ≤ x1) → vp_in x1 4001 ∧ aI Y x1.toNatClampNeg = aI Rw x1.toNatClampNeg := fun z1 z2 => by
    rcases pk_ix x1 (n := L) (by omega) with h | h | ⟨j, hj, e⟩
    · exact absurd h z1
    · exact absurd h z2
    · subst e
      rw [nI_clamp (by omega)]
      exact ⟨vp_in_nI (by omega) (by omega), congrArg nI (s11 j hj)⟩
  refine ⟨fun z => ⟨fun _ => fin5 rfl g, fun z' => absurd z z'⟩, fun z1 => ⟨fun z2 => ⟨fun z => absurd z z1, fun _ => ⟨fun _ => fin5 rfl g, fun z => absurd z2 z⟩⟩, fun z2 => ⟨(same z1 z2).1, ⟨fun z => absurd z z1, fun _ => ⟨fun z => absurd z z2, fun _ => ⟨(same z1 z2).1, fin5 (same z1 z2).2 g⟩⟩⟩⟩⟩⟩
theorem L_within {N Ls i : Nat} {xs : Nat → Int32} {k18 : Int32 → (Nat → Int32) → Int32 → Int32 → Int32 → (Nat → Int32) → (Nat → Int32) → (Nat → Int32) → Int32 → (Nat → Int32) → Int32 → (Nat → Int64) → (Nat → Int32) → (Nat → Int32) → (Nat → Int32) → Int32 → Int32 → Int32 → Int32 → Int32 → (Nat → Int32) → (Nat → Int32) → (Nat → Int32) → (Nat → Int32) → (Nat → Int32) → (Nat → Int64) → (Nat → Int32) → (Nat → Int32) → (Nat → Int32) → (Nat → Int32) → (Nat → Int32) → (Nat → Int32) → Int32 → Prop} {n k q L : Nat} {Cs : Nat → Nat → Int32} {Bar : Nat → Nat → Nat → Prop} {E F Kt W A Q Y Lo Hi cC cZ Bm T Mn Kk Ah Rw : Nat → Nat} {vC vsU vmF vmX : Nat → Int32} {vsB vhN vmHN : Int32} (hN : 5000 ≤ N) (hLs : Ls ≤ 2560) (hi : i + 5 ≤ Ls) (hK : KH k18 i) (hS : ST n k q L Cs Bar E F Kt W Y Lo Hi cC cZ Bm T Mn Kk Rw vC) : w_L_c381 N Ls xs k18 (nI L) (aI Y) vsB (nI n) (nI (2 * k)) (aI E) vC (aI F) (nI q) (aI Kt) vhN (aL W) (aI A) (aI Q) vsU (nI n) (nI k) (nI q) vmHN (nI L) (aI Lo) (aI Hi) (aI cC) (aI cZ) (aI Bm) (aL T) (aI Mn) (aI Kk) vmF vmX (aI Ah) (aI Rw) (nI i) := by
  obtain ⟨s1, s2, s3, s4, s5, s6, s7, s8, s9, s10, s11⟩ := id hS
  obtain ⟨n1, n2, n3⟩ := s1.1
  unfold w_L_c381
  rw [show nI i + (1 : Int32) = nI (i + 1) from nI_add i 1, show nI i + (2 : Int32) = nI (i + 2) from nI_add i 2, show nI i + (3 : Int32) = nI (i + 3) from nI_add i 3, nI_clamp (by omega), nI_clamp (by omega), nI_clamp (by omega)]
  refine ⟨vp_in_nI (by omega) (by omega), vp_in_nI (by omega) (by omega), vp_in_nI (by omega) (by omega), ?_⟩
  generalize xs (i + 1) = x1
  generalize xs (i + 2) = x2
  generalize xs (i + 3) = x3
  generalize ((x2.toInt64 <<< ((32 : Int32).toInt64 &&& 63)) ||| (x3.toInt64 &&& (4294967295 : Int64))) = y
  refine within_X s1 s2 s3 (by omega) s6 (fun hb => ?_) (fun a ha e1 hneg => ?_) (fun a mo ha e1 hmo e2 fd W' A' Q' vN' U' dn hW' hI hU hc => ?_)
  · refine mwithin_s s4 s5 (by omega) s7 s8 s9 (fun _ => fin5 rfl ?_) (fun a ha e1 _ => absurd ⟨a, ha, e1⟩ hb) (fun a mo ha e1 => absurd ⟨a, ha, e1⟩ hb)
    exact hK _ _ _ _ _ _ _ _ _ _ _ _ _ _ _ _ _ _ _ _ _ _ _ _ _ _ _ _ _ _ hS
  · refine mwithin_s s4 s5 (by omega) s7 s8 s9 (fun hb => absurd ⟨a, ha, e1⟩ hb) (fun _ _ _ _ => fin5 rfl ?_) (fun a' mo ha' e1' hmo e2 => absurd (by rw [← e2]; exact hneg) (lN_nn hmo))
    exact hK _ _ _ _ _ _ _ _ _ _ _ _ _ _ _ _ _ _ _ _ _ _ _ _ _ _ _ _ _ _ hS
  · refine mwithin_s s4 s5 (by omega) s7 s8 s9 (fun hb => absurd ⟨a, ha, e1⟩ hb) (fun _ _ _ hneg => absurd (by rw [← e2]; exact hneg) (lN_nn hmo)) (fun a' mo' ha' e1' hmo' e2' fd' T' Mn' K' A2 vF' vX' G dn' D hT' hM' hK' hI' hG hc' => ?_)
    have q1 := nI_inj (n := n) (by omega) ha ha' (e1.symm.trans e1')
    have q2 := (pk_lEQ hmo hmo').mp (e2.symm.trans e2')
    subst q1 q2
    have q3 : 1 + fd = fd' := by
      rw [← hc, ← hc']
      refine cn_congr (fun v hv => decide_eq_decide.mpr ?_)
      rw [hU v hv, hG v hv, same_W s1 s2 s4 hI hI' v]
    subst q3
    refine fin5 rfl ?_
    exact hK _ _ _ _ _ _ _ _ _ _ _ _ _ _ _ _ _ _ _ _ _ _ _ _ _ _ _ _ _ _ ⟨s1, s2, s3, s4, s5, hW', hT', hM', hK', s10, s11⟩
theorem L_loop {N Ls : Nat} {xs : Nat → Int32} (hN : 5000 ≤ N) (hLs : Ls ≤ 2560) : ∀ (t i : Nat), i ≤ Ls → Ls < i + 5 * t → ∀ (n k q L : Nat) (Cs : Nat → Nat → Int32) (Bar : Nat → Nat → Nat → Prop) (E F Kt W A Q Y Lo Hi cC cZ Bm T Mn Kk Ah Rw : Nat → Nat) (vC vsU vmF vmX : Nat → Int32) (vsB vhN vmHN : Int32), ST n k q L Cs Bar E F Kt W Y Lo Hi cC cZ Bm T Mn Kk Rw vC → w_L N Ls xs t (nI L) (aI Y) vsB (nI n) (nI (2 * k)) (aI E) vC (aI F) (nI q) (aI Kt) vhN (aL W) (aI A) (aI Q) vsU (nI n) (nI k) (nI q) vmHN (nI L) (aI Lo) (aI Hi) (aI cC) (aI cZ) (aI Bm) (aL T) (aI Mn) (aI Kk) vmF vmX (aI Ah) (aI Rw) (nI i) := by
  intro t
  induction t with
  | zero => intro i h1 h2; omega
  | succ t ih =>
    intro i h1 h2 n k q L Cs Bar E F Kt W A Q Y Lo Hi cC cZ Bm T Mn Kk Ah Rw vC vsU vmF vmX vsB vhN vmHN hS
    show w_L_B N Ls xs (w_L N Ls xs t) (nI L) (aI Y) vsB (nI n) (nI (2 * k)) (aI E) vC (aI F) (nI q) (aI Kt) vhN (aL W) (aI A) (aI Q) vsU (nI n) (nI k) (nI q) vmHN (nI L) (aI Lo) (aI Hi) (aI cC) (aI cZ) (aI Bm) (aL T) (aI Mn) (aI Kk) vmF vmX (aI Ah) (aI Rw) (nI i)
    unfold w_L_B
    have ex : (Int32.ofNat Ls - (5 : Int32) < nI i) ↔ Ls < i + 5 := by
      rw [Int32.lt_iff_toInt_lt, nI_toInt (by omega), show Int32.ofNat Ls - (5 : Int32) = nI Ls - nI 5 from rfl, pk_sub_toInt (by omega) (by omega)]
      omega
    rw [ex]
    refine ⟨fun _ => trivial, fun hz => ⟨vp_in_nI (by omega) (by omega), fun v _ => ?_⟩⟩
    have hi : i + 5 ≤ Ls := by omega
    have hK : KH (w_L N Ls xs t) i := fun n' k' q' L' Cs' Bar' E' F' Kt' W' A' Q' Y' Lo' Hi' cC' cZ' Bm' T' Mn' Kk' Ah' Rw' vC' vsU' vmF' vmX' vsB' vhN' vmHN' hS' => ih (i + 5) hi (by omega) n' k' q' L' Cs' Bar' E' F' Kt' W' A' Q' Y' Lo' Hi' cC' cZ' Bm' T' Mn' Kk' Ah' Rw' vC' vsU' vmF' vmX' vsB' vhN' vmHN' hS'
    refine ⟨⟨fun _ => L_size hN hLs hi hK hS, fun _ => L_road hN hLs hi hK hS, fun _ => L_close hN hLs hi hK hS, fun _ => L_cost hN hLs hi hK hS, fun _ => L_bar hN hLs hi hK hS, fun _ => L_route hN hLs hi hK hS, fun _ => L_length hN hLs hi hK hS, fun _ => L_node hN hLs hi hK hS, fun _ => L_within hN hLs hi hK hS⟩, fun _ _ _ _ _ _ _ _ _ y e => ?_⟩
    rw [e, show nI i + (5 : Int32) = nI (i + 5) from nI_add i 5]
    exact hK n k q L Cs Bar E F Kt W A Q Y Lo Hi cC cZ Bm T Mn Kk Ah Rw vC vsU vmF vmX vsB vhN vmHN hS
theorem law_pure (L : Nat) (xs : Nat → Int32) (hL : L ≤ 2560) : ∃ N : Nat, w_L N L xs 600 0 (fun _ => 0) 0 1 0 (fun _ => 0) (fun _ => 0) (fun _ => 0) 0 (fun _ => 0) 0 (fun _ => 0) (fun _ => 0) (fun _ => 0) (fun _ => 0) 1 0 0 0 0 (fun _ => 0) (fun _ => 0) (fun _ => 0) (fun _ => 0) (fun _ => 0) (fun _ => 0) (fun _ => 0) (fun _ => 0) (fun _ => 0) (fun _ => 0) (fun _ => 0) (fun _ => 0) 0 := by
  have g : ∀ N t : Nat, 5000 ≤ N → 600 ≤ t → w_L N L xs t 0 (fun _ => 0) 0 1 0 (fun _ => 0) (fun _ => 0) (fun _ => 0) 0 (fun _ => 0) 0 (fun _ => 0) (fun _ => 0) (fun _ => 0) (fun _ => 0) 1 0 0 0 0 (fun _ => 0) (fun _ => 0) (fun _ => 0) (fun _ => 0) (fun _ => 0) (fun _ => 0) (fun _ => 0) (fun _ => 0) (fun _ => 0) (fun _ => 0) (fun _ => 0) (fun _ => 0) 0 := fun N t hN ht =>
    L_loop (N := N) (xs := xs) hN hL t 0 (by omega) (by omega) 1 0 0 0 (fun _ _ => 0) (fun _ _ _ => False) (fun _ => 0) (fun _ => 0) (fun _ => 0) (fun _ => 0) (fun _ => 0) (fun _ => 0) (fun _ => 0) (fun _ => 0) (fun _ => 0) (fun _ => 0) (fun _ => 0) (fun _ => 0) (fun _ => 0) (fun _ => 0) (fun _ => 0) (fun _ => 0) (fun _ => 0) (fun _ => 0) (fun _ => 0) (fun _ => 0) (fun _ => 0) 0 0 0 ⟨RT_empty (by omega) (by omega) (fun _ _ => rfl), CS_empty, TT_empty (by omega), MT_empty (by omega) (by omega), BT_empty (by omega), fun _ => (show (0 : Nat) < 2 ^ 63 by decide), fun _ => (show (0 : Nat) < 2 ^ 63 by decide), fun _ => (show (0 : Nat) < 4096 by decide), fun _ => (show (0 : Nat) ≤ 1 by decide), by omega, fun j hj => by omega⟩
  exact ⟨5000, g 5000 600 (Nat.le_refl _) (Nat.le_refl _)⟩
