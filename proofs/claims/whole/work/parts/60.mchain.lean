/-! the reference's arcs: w / 2 is the road, w % 2 the direction -/
def stM (Lo Hi : Nat → Nat) (w : Nat) : Nat := if w % 2 = 0 then Lo (w / 2) else Hi (w / 2)
def xr (w : Nat) : Nat := if w % 2 = 0 then w + 1 else w - 1
theorem xr_div (w : Nat) : xr w / 2 = w / 2 := by unfold xr; split <;> omega
theorem xr_xr (w : Nat) : xr (xr w) = w := by
  unfold xr
  by_cases h : w % 2 = 0
  · rw [if_pos h, if_neg (by omega)]; omega
  · rw [if_neg h, if_pos (by omega)]; omega
theorem xr_lt {w k : Nat} (h : w < 2 * k) : xr w < 2 * k := by
  have := xr_div w
  omega
theorem nx_xor (a b : Nat) : nI a ^^^ nI b = nI (a ^^^ b) := by
  apply Int32.toBitVec_inj.1
  show BitVec.ofNat 32 a ^^^ BitVec.ofNat 32 b = BitVec.ofNat 32 (a ^^^ b)
  apply BitVec.eq_of_getLsbD_eq
  intro i hi
  simp [hi]
theorem xor_xr (w : Nat) : w ^^^ 1 = xr w := by
  have h1 : (w ^^^ 1) / 2 = w / 2 := by rw [Nat.xor_div_two]; exact Nat.xor_zero _
  have h2 : ((w ^^^ 1) % 2 = 1) ↔ ¬ ((w % 2 = 1) ↔ (1 % 2 = 1)) := Nat.xor_mod_two_eq_one
  unfold xr
  by_cases q : w % 2 = 0
  · have := h2.mpr (by omega)
    rw [if_pos q]; omega
  · have : ¬ (w ^^^ 1) % 2 = 1 := fun z => h2.mp z ⟨fun _ => by omega, fun _ => by omega⟩
    rw [if_neg q]; omega
theorem nI_xor {w : Nat} (h : w < 4000) : nI w ^^^ (1 : Int32) = nI (xr w) := by
  rw [show (1 : Int32) = nI 1 from rfl, nx_xor, xor_xr]
theorem start_s {N w : Nat} {Lo Hi : Nat → Nat} {post : Int32 → Prop} (hw : w < 4000) (hp : post (nI (stM Lo Hi w))) : w_X5_start N (aI Lo) (aI Hi) (nI w) post := by
  unfold w_X5_start
  rw [show (2 : Int32) = nI 2 from rfl, pk_rem (by omega) (by omega) (by omega), pk_div (by omega) (by omega) (by omega), nI_clamp (by omega), show (0 : Int32) = nI 0 from rfl, nI_eq (by omega) (by omega)]
  unfold stM at hp
  refine ⟨fun h => ⟨vp_in_nI (by omega) (by omega), ?_⟩, fun h => ⟨vp_in_nI (by omega) (by omega), ?_⟩⟩
  · rw [if_neg h] at hp; exact hp
  · rw [if_pos h] at hp; exact hp
theorem end_s {N w : Nat} {Lo Hi : Nat → Nat} {post : Int32 → Prop} (hw : w < 4000) (hp : post (nI (stM Lo Hi (xr w)))) : w_X5_end N (aI Lo) (aI Hi) (nI w) post := by
  unfold w_X5_end
  rw [nI_xor hw]
  have := xr_lt (w := w) (k := 2000) (by omega)
  exact start_s (by omega) hp
theorem MT.st {n k : Nat} {Lo Hi cC cZ : Nat → Nat} {Cs : Nat → Nat → Int32} (h : MT n k Lo Hi cC cZ Cs) {w : Nat} (hw : w < 2 * k) : stM Lo Hi w < n := by
  have l := h.2.2.1 (w / 2) (by omega)
  unfold stM
  split <;> omega
/-- the next open arc from node v, from place lo on -/
def NX (k : Nat) (Lo Hi cZ : Nat → Nat) (v lo : Nat) (r : Int32) : Prop :=
  (∃ w, lo ≤ w ∧ w < 2 * k ∧ cZ (w / 2) = 0 ∧ stM Lo Hi w = v ∧ r = nI w ∧ ∀ w', lo ≤ w' → w' < w → ¬ (cZ (w' / 2) = 0 ∧ stM Lo Hi w' = v)) ∨ (r = -1 ∧ ∀ w', lo ≤ w' → w' < 2 * k → ¬ (cZ (w' / 2) = 0 ∧ stM Lo Hi w' = v))
theorem NX.skip {k : Nat} {Lo Hi cZ : Nat → Nat} {v lo : Nat} {r : Int32} (h : NX k Lo Hi cZ v (lo + 1) r) (hn : ¬ (cZ (lo / 2) = 0 ∧ stM Lo Hi lo = v)) : NX k Lo Hi cZ v lo r := by
  rcases h with ⟨w, a, b, c, d, e, f⟩ | ⟨a, b⟩
  · refine Or.inl ⟨w, by omega, b, c, d, e, fun w' p q => ?_⟩
    by_cases z : w' = lo
    · rw [z]; exact hn
    · exact f w' (by omega) q
  · refine Or.inr ⟨a, fun w' p q => ?_⟩
    by_cases z : w' = lo
    · rw [z]; exact hn
    · exact b w' (by omega) q
/-- the chains, as begin() lays them -/
def CH (n k : Nat) (Lo Hi cZ : Nat → Nat) (vF vX : Nat → Int32) : Prop := (∀ v, v < n → NX k Lo Hi cZ v 0 (vF v)) ∧ ∀ w, w < 2 * k → cZ (w / 2) = 0 → NX k Lo Hi cZ (stM Lo Hi w) (w + 1) (vX w)
theorem mbegin_l {N n k : Nat} {Lo Hi cC cZ : Nat → Nat} {Cs : Nat → Nat → Int32} {vHN : Int32} {post : Int32 → (Nat → Int32) → (Nat → Int32) → (Nat → Int32) → Prop} (h : MT n k Lo Hi cC cZ Cs) (hp : ∀ K' vF vX, (∀ w, K' w ≤ 1) → (∀ w, w < 2 * k → K' w = 0) → CH n k Lo Hi cZ vF vX → post vHN (aI K') vF vX) :
    ∀ (t c : Nat) (K : Nat → Nat) (vF vX : Nat → Int32), (∀ w, K w ≤ 1) → c < t → c ≤ 2 * k → (∀ w, c ≤ w → w < 2 * k → K w = 0) → (∀ v, v < n → NX k Lo Hi cZ v c (vF v)) → (∀ w, c ≤ w → w < 2 * k → cZ (w / 2) = 0 → NX k Lo Hi cZ (stM Lo Hi w) (w + 1) (vX w)) → w_X5_begin_b37 N (aI Lo) (aI Hi) (aI cZ) post t vHN (aI K) vF vX (if c = 0 then -1 else nI (c - 1)) := by
  obtain ⟨n1, n2, n3⟩ := h.1
  intro t
  induction t with
  | zero => intro c K vF vX _ z; omega
  | succ t ih =>
    intro c K vF vX k0 k1 k2 k3 k4 k5
    show w_X5_begin_b37_B N (aI Lo) (aI Hi) (aI cZ) post _ vHN (aI K) vF vX (if c = 0 then -1 else nI (c - 1))
    unfold w_X5_begin_b37_B
    by_cases c0 : c = 0
    · subst c0
      rw [if_pos rfl]
      exact ⟨fun _ => hp K vF vX k0 (fun w hw => k3 w (by omega) hw) ⟨k4, fun w hw ho => k5 w (by omega) hw ho⟩, fun z => absurd m1_lt z⟩
    · obtain ⟨w, rfl⟩ : ∃ w, c = w + 1 := ⟨c - 1, by omega⟩
      rw [if_neg c0, show w + 1 - 1 = w by omega]
      refine ⟨fun z => absurd z (nI_pos (by omega)), fun _ => ?_⟩
      have l := h.2.2.1 (w / 2) (by omega)
      have hst := h.st (w := w) (by omega)
      have em : ∀ y : Int32, y = nI w + (-1 : Int32) → y = (if w = 0 then -1 else nI (w - 1)) := fun y hy => by
        by_cases q : w = 0
        · subst q; rw [if_pos rfl, hy]; rfl
        · rw [if_neg q, hy]; exact sb_m1 (by omega)
      rw [show (2 : Int32) = nI 2 from rfl, pk_div (by omega) (by omega) (by omega), nI_clamp (by omega), nI_clamp (by omega), show (0 : Int32) = nI 0 from rfl, aI_updZ K w 0 (by omega), show aI cZ (w / 2) = nI (cZ (w / 2)) from rfl, nI_eq (by omega) (by omega)]
      have k01 : ∀ w', va_up K w 0 w' ≤ 1 := fun w' => by
        by_cases q : w' = w
        · rw [q, va_up_self]; omega
        · rw [va_up_ne _ _ q]; exact k0 w'
      have kz : ∀ w', w ≤ w' → w' < 2 * k → va_up K w 0 w' = 0 := fun w' a b => by
        by_cases q : w' = w
        · rw [q, va_up_self]
        · rw [va_up_ne _ _ q]; exact k3 w' (by omega) b
      refine ⟨vp_in_nI (by omega) (by omega), vp_in_nI (by omega) (by omega), fun ho => start_s (by omega) ⟨vp_in_nI (by omega) (by omega), start_s (by omega) ⟨vp_in_nI (by omega) (by omega), fun y hy => ?_⟩⟩, fun hc y hy => ?_⟩
      · rw [em y hy, nI_clamp (by omega)]
        refine ih w _ _ _ k01 (by omega) (by omega) kz (fun v hv => ?_) (fun w' a b d => ?_)
        · by_cases q : v = stM Lo Hi w
          · subst q
            exact Or.inl ⟨w, Nat.le_refl _, by omega, ho, rfl, if_pos rfl, fun w' a b => by omega⟩
          · rw [show upd vF (stM Lo Hi w) (nI w) v = vF v from if_neg q]
            exact (k4 v hv).skip (fun z => q z.2.symm)
        · by_cases q : w' = w
          · subst q
            rw [show upd vX w' (vF (stM Lo Hi w')) w' = vF (stM Lo Hi w') from if_pos rfl]
            exact k4 _ hst
          · rw [show upd vX w (vF (stM Lo Hi w)) w' = vX w' from if_neg q]
            exact k5 w' (by omega) b d
      · rw [em y hy]
        refine ih w _ _ _ k01 (by omega) (by omega) kz (fun v hv => (k4 v hv).skip (fun z => hc z.1)) (fun w' a b d => ?_)
        by_cases q : w' = w
        · rw [q] at d; exact absurd d hc
        · exact k5 w' (by omega) b d
theorem mbegin_s {N n k : Nat} {Lo Hi cC cZ K : Nat → Nat} {Cs : Nat → Nat → Int32} {vHN : Int32} {vF vX : Nat → Int32} {post : Int32 → (Nat → Int32) → (Nat → Int32) → (Nat → Int32) → Prop} (h : MT n k Lo Hi cC cZ Cs) (hN : 4000 < N) (hK1 : ∀ w, K w ≤ 1) (hp : ∀ K' vF vX, (∀ w, K' w ≤ 1) → (∀ w, w < 2 * k → K' w = 0) → CH n k Lo Hi cZ vF vX → post 0 (aI K') vF vX) : w_X5_begin N (nI n) (nI k) vHN (aI Lo) (aI Hi) (aI cZ) (aI K) vF vX post := by
  obtain ⟨n1, n2, n3⟩ := h.1
  unfold w_X5_begin
  have key : ∀ (t v : Nat) (vF' : Nat → Int32), v ≤ n → n - v < t → (∀ w, w < v → vF' w = -1) → w_X5_begin_b7 N (nI n) (nI k) (aI Lo) (aI Hi) (aI cZ) post t 0 (aI K) vF' vX (nI v) := by
    intro t
    induction t with
    | zero => intro v vF' _ z; omega
    | succ t ih =>
      intro v vF' k1 k2 k3
      show w_X5_begin_b7_B N (nI n) (nI k) (aI Lo) (aI Hi) (aI cZ) post _ 0 (aI K) vF' vX (nI v)
      unfold w_X5_begin_b7_B
      refine pk_le n v (fun z y hy => ?_) (fun z => ⟨vp_in_nI (by omega) (by omega), fun y hy => ?_⟩)
      · have ey : y = (if 2 * k = 0 then -1 else nI (2 * k - 1)) := by
          rw [hy, show (2 : Int32) * nI k = nI (2 * k) from pk_mul 2 k]
          by_cases q : 2 * k = 0
          · rw [q, if_pos rfl]; rfl
          · rw [if_neg q]; exact pk_sub (a := 2 * k) (b := 1) (by omega)
        rw [ey]
        exact mbegin_l h hp N (2 * k) K vF' vX hK1 (by omega) (Nat.le_refl _) (fun w a b => by omega) (fun v' hv' => Or.inr ⟨k3 v' (by omega), fun w' a b => by omega⟩) (fun w a b => by omega)
      · have ey : y = nI (v + 1) := by rw [hy]; exact nI_1 v
        subst ey
        rw [nI_clamp (by omega)]
        refine ih (v + 1) _ (by omega) (by omega) (fun w hw => ?_)
        by_cases q : w = v
        · exact if_pos q
        · exact (if_neg q).trans (k3 w (by omega))
  exact key N 0 vF (by omega) (by omega) (fun w hw => by omega)
/-! the arcs that one step makes known -/
def NW (k : Nat) (Lo Hi cZ : Nat → Nat) (g : Nat → Nat) (v : Nat) (K0 : Nat → Nat) (P : Nat → Prop) (lo e : Nat) : Prop := (g e < lo ∧ g e < 2 * k ∧ cZ (e / 2) = 0 ∧ stM Lo Hi (g e) = v) ∧ K0 e = 0 ∧ P e
def RI (k : Nat) (Lo Hi cC cZ g : Nat → Nat) (v : Nat) (K0 T0 M0 A0 : Nat → Nat) (c0 : Nat) (P : Nat → Prop) (t0 m0 tk lo : Nat) (T Mn K A : Nat → Nat) (c : Nat) : Prop :=
  (∀ e, NW k Lo Hi cZ g v K0 P lo e → K e = 1 ∧ T e = cC (e / 2) + t0 ∧ Mn e = m0 + 1) ∧ (∀ e, ¬ NW k Lo Hi cZ g v K0 P lo e → K e = K0 e ∧ T e = T0 e ∧ Mn e = M0 e) ∧ HpOk (kk T Mn) A c ∧ (∀ y, hIn A c y ↔ (hIn A0 c0 y ∨ NW k Lo Hi cZ g v K0 P lo y)) ∧ cn (fun w => decide (K w ≠ 0)) (2 * k) = tk + c ∧ (∀ j, T j < 2 ^ 63) ∧ (∀ j, Mn j < 4096)
theorem RI.start {k : Nat} {Lo Hi cC cZ g : Nat → Nat} {v : Nat} {K0 T0 M0 A0 : Nat → Nat} {c0 : Nat} {P : Nat → Prop} {t0 m0 tk : Nat} (h1 : HpOk (kk T0 M0) A0 c0) (h2 : cn (fun w => decide (K0 w ≠ 0)) (2 * k) = tk + c0) (h3 : ∀ j, T0 j < 2 ^ 63) (h4 : ∀ j, M0 j < 4096) : RI k Lo Hi cC cZ g v K0 T0 M0 A0 c0 P t0 m0 tk 0 T0 M0 K0 A0 c0 :=
  ⟨fun e z => by have := z.1.1; omega, fun _ _ => ⟨rfl, rfl, rfl⟩, h1, fun y => ⟨fun z => Or.inl z, fun z => z.elim id (fun z => by have := z.1.1; omega)⟩, h2, h3, h4⟩
theorem RI.to {k : Nat} {Lo Hi cC cZ g : Nat → Nat} {v : Nat} {K0 T0 M0 A0 : Nat → Nat} {c0 : Nat} {P : Nat → Prop} {t0 m0 tk lo lo' : Nat} {T Mn K A : Nat → Nat} {c : Nat} (h : RI k Lo Hi cC cZ g v K0 T0 M0 A0 c0 P t0 m0 tk lo T Mn K A c) (e : ∀ y, NW k Lo Hi cZ g v K0 P lo' y ↔ NW k Lo Hi cZ g v K0 P lo y) : RI k Lo Hi cC cZ g v K0 T0 M0 A0 c0 P t0 m0 tk lo' T Mn K A c :=
  ⟨fun y z => h.1 y ((e y).mp z), fun y z => h.2.1 y (fun w => z ((e y).mpr w)), h.2.2.1, fun y => by rw [h.2.2.2.1 y, e y], h.2.2.2.2⟩
/-- one arc more -/
theorem RI.add {k : Nat} {Lo Hi cC cZ g : Nat → Nat} {v : Nat} {K0 T0 M0 A0 A' : Nat → Nat} {c0 : Nat} {P : Nat → Prop} {t0 m0 tk lo w : Nat} {T Mn K A : Nat → Nat} {c : Nat} (h : RI k Lo Hi cC cZ g v K0 T0 M0 A0 c0 P t0 m0 tk lo T Mn K A c) (gg : ∀ w, g (g w) = w) (gd : ∀ w, g w / 2 = w / 2) (hk : k ≤ 2000) (hlo : lo ≤ w) (hw : w < 2 * k) (ho : cZ (w / 2) = 0) (hst : stM Lo Hi w = v) (hbet : ∀ w', lo ≤ w' → w' < w → ¬ (cZ (w' / 2) = 0 ∧ stM Lo Hi w' = v)) (hK : K0 (g w) = 0) (hP : P (g w)) (hT : cC (g w / 2) + t0 < 2 ^ 63) (hM : m0 + 1 < 4096)
    (h1 : HpOk (kk (va_up T (g w) (cC (g w / 2) + t0)) (va_up Mn (g w) (m0 + 1))) A' (c + 1)) (h2 : ∀ y, hIn A' (c + 1) y ↔ (hIn A c y ∨ y = g w)) : RI k Lo Hi cC cZ g v K0 T0 M0 A0 c0 P t0 m0 tk (w + 1) (va_up T (g w) (cC (g w / 2) + t0)) (va_up Mn (g w) (m0 + 1)) (va_up K (g w) 1) A' (c + 1) := by
  have ex : ∀ y, NW k Lo Hi cZ g v K0 P (w + 1) y ↔ (NW k Lo Hi cZ g v K0 P lo y ∨ y = g w) := fun y => by
    constructor
    · rintro ⟨⟨a, b, d, e⟩, f, p⟩
      by_cases q : g y < lo
      · exact Or.inl ⟨⟨q, b, d, e⟩, f, p⟩
      · by_cases q2 : g y = w
        · exact Or.inr (by rw [← q2, gg])
        · exact absurd ⟨by rw [gd]; exact d, e⟩ (hbet (g y) (by omega) (by omega))
    · rintro (⟨⟨a, b, d, e⟩, f, p⟩ | q)
      · exact ⟨⟨by omega, b, d, e⟩, f, p⟩
      · rw [q]
        exact ⟨⟨by rw [gg]; omega, by rw [gg]; exact hw, by rw [gd]; exact ho, by rw [gg]; exact hst⟩, hK, hP⟩
  have nn : ¬ NW k Lo Hi cZ g v K0 P lo (g w) := fun z => by have := z.1.1; rw [gg] at this; omega
  have hgw : g w < 2 * k := by have := gd w; omega
  refine ⟨fun e z => ?_, fun e z => ?_, h1, fun y => ?_, ?_, fun j => ?_, fun j => ?_⟩
  · rcases (ex e).mp z with q | q
    · have c1 : e ≠ g w := fun y => nn (by rw [← y]; exact q)
      rw [va_up_ne _ _ c1, va_up_ne _ _ c1, va_up_ne _ _ c1]
      exact h.1 e q
    · rw [q, va_up_self, va_up_self, va_up_self]
      exact ⟨rfl, rfl, rfl⟩
  · have c1 : e ≠ g w := fun y => z ((ex e).mpr (Or.inr y))
    rw [va_up_ne _ _ c1, va_up_ne _ _ c1, va_up_ne _ _ c1]
    exact h.2.1 e (fun y => z ((ex e).mpr (Or.inl y)))
  · rw [h2 y, h.2.2.2.1 y, ex y]
    constructor
    · rintro ((q | q) | q)
      · exact Or.inl q
      · exact Or.inr (Or.inl q)
      · exact Or.inr (Or.inr q)
    · rintro (q | q | q)
      · exact Or.inl (Or.inl q)
      · exact Or.inl (Or.inr q)
      · exact Or.inr q
  · have kz : K (g w) = 0 := by rw [(h.2.1 (g w) nn).1]; exact hK
    rw [cn_up (f := fun w => decide (K w ≠ 0)) (v := g w) (by simp [kz]) (by simp only [va_up_self]; decide) (fun j hj => by simp only [va_up_ne _ _ hj]) hgw, h.2.2.2.2.1]
    omega
  · by_cases q : j = g w
    · rw [q, va_up_self]; exact hT
    · rw [va_up_ne _ _ q]; exact h.2.2.2.2.2.1 j
  · by_cases q : j = g w
    · rw [q, va_up_self]; exact hM
    · rw [va_up_ne _ _ q]; exact h.2.2.2.2.2.2 j
/-- what known() needs, while the loop runs -/
theorem RI.pre {k : Nat} {Lo Hi cC cZ g : Nat → Nat} {v : Nat} {K0 T0 M0 A0 : Nat → Nat} {c0 : Nat} {P : Nat → Prop} {t0 m0 tk lo w : Nat} {T Mn K A : Nat → Nat} {c : Nat} (h : RI k Lo Hi cC cZ g v K0 T0 M0 A0 c0 P t0 m0 tk lo T Mn K A c) (gg : ∀ w, g (g w) = w) (gd : ∀ w, g w / 2 = w / 2) (hk : k ≤ 2000) (hA0 : ∀ y, hIn A0 c0 y → y < 2 * k ∧ K0 y ≠ 0) (hlo : lo ≤ w) (hw : w < 2 * k) (hK : K0 (g w) = 0) : c < 4000 ∧ (∀ i, i < c → A i < 4000) ∧ g w < 2 * k ∧ ¬ hIn A c (g w) ∧ K (g w) = 0 := by
  have nn : ¬ NW k Lo Hi cZ g v K0 P lo (g w) := fun z => by have := z.1.1; rw [gg] at this; omega
  have hgw : g w < 2 * k := by have := gd w; omega
  have kz : K (g w) = 0 := by rw [(h.2.1 (g w) nn).1]; exact hK
  have hc := cn_lt (f := fun w => decide (K w ≠ 0)) (v := g w) (by simp [kz]) hgw
  have hcn := h.2.2.2.2.1
  refine ⟨by omega, fun i hi => ?_, hgw, fun z => ?_, kz⟩
  · rcases (h.2.2.2.1 (A i)).mp ⟨i, hi, rfl⟩ with q | q
    · have := (hA0 _ q).1; omega
    · have := q.1.2.1
      have := gd (A i)
      omega
  · rcases (h.2.2.2.1 (g w)).mp z with q | q
    · exact (hA0 _ q).2 hK
    · exact nn q
