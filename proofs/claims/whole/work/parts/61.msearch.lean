/-! the reference's search -/
def DM (k : Nat) (K T Mn : Nat → Nat) (w : Nat) : Nat := if w < 2 * k ∧ K w ≠ 0 then kk T Mn w else 0
def MV (k s : Nat) (Lo Hi cC cZ g : Nat → Nat) (B : Nat → Nat → Nat → Prop) (T Mn K A : Nat → Nat) (c : Nat) (dn pp : Nat → Prop) (M tk : Nat) : Prop :=
  DInv s (fun e => stM Lo Hi (g e)) (fun e => stM Lo Hi (g (xr e))) (fun w => w < 2 * k ∧ cZ (w / 2) = 0) (fun w => cC (w / 2) * 4096 + 1) B (DM k K T Mn) dn M ∧
  HpOk (kk T Mn) A c ∧ (∀ y, hIn A c y ↔ (y < 2 * k ∧ K y ≠ 0 ∧ ¬ pp y)) ∧ (∀ y, dn y → pp y) ∧ (∀ y, pp y → y < 2 * k ∧ K y ≠ 0) ∧
  cn (fun w => decide (K w ≠ 0)) (2 * k) = tk + c ∧ (∀ w, w < 2 * k → K w ≠ 0 → T w ≤ (tk + 1) * 1000000000 ∧ Mn w ≤ tk + 1 ∧ 1 ≤ Mn w) ∧ (∀ j, T j < 2 ^ 63) ∧ (∀ j, Mn j < 4096) ∧ (∀ w, K w ≤ 1)
theorem RI.K1 {k : Nat} {Lo Hi cC cZ g : Nat → Nat} {v : Nat} {K0 T0 M0 A0 : Nat → Nat} {c0 : Nat} {P : Nat → Prop} {t0 m0 tk lo : Nat} {T Mn K A : Nat → Nat} {c : Nat} (h : RI k Lo Hi cC cZ g v K0 T0 M0 A0 c0 P t0 m0 tk lo T Mn K A c) (hK : ∀ w, K0 w ≤ 1) : ∀ w, K w ≤ 1 := fun w => by
  by_cases q : NW k Lo Hi cZ g v K0 P lo w
  · rw [(h.1 w q).1]; omega
  · rw [(h.2.1 w q).1]; exact hK w
theorem mv_start {k s : Nat} {Lo Hi cC cZ g : Nat → Nat} {B : Nat → Nat → Nat → Prop} {K0 T0 M0 A0 T Mn K A : Nat → Nat} {c : Nat} (gd : ∀ w, g w / 2 = w / 2) (hcC : ∀ r, r < k → cC r ≤ 1000000000) (hK0 : ∀ w, w < 2 * k → K0 w = 0) (hK1 : ∀ w, K0 w ≤ 1) (h : RI k Lo Hi cC cZ g s K0 T0 M0 A0 0 (fun _ => True) 0 0 0 (2 * k) T Mn K A c) : MV k s Lo Hi cC cZ g B T Mn K A c (fun _ => False) (fun _ => False) 0 0 := by
  have nw : ∀ e, e < 2 * k → (NW k Lo Hi cZ g s K0 (fun _ => True) (2 * k) e ↔ (cZ (e / 2) = 0 ∧ stM Lo Hi (g e) = s)) := fun e he => by
    have := gd e
    constructor
    · rintro ⟨⟨a, b, d, f⟩, _⟩; exact ⟨d, f⟩
    · rintro ⟨d, f⟩; exact ⟨⟨by omega, by omega, d, f⟩, hK0 e he, trivial⟩
  have kn : ∀ e, e < 2 * k → (K e ≠ 0 ↔ (cZ (e / 2) = 0 ∧ stM Lo Hi (g e) = s)) := fun e he => by
    rw [← nw e he]
    constructor
    · intro z
      by_cases q : NW k Lo Hi cZ g s K0 (fun _ => True) (2 * k) e
      · exact q
      · rw [(h.2.1 e q).1, hK0 e he] at z; exact absurd rfl z
    · intro q; rw [(h.1 e q).1]; decide
  have val : ∀ e, e < 2 * k → K e ≠ 0 → kk T Mn e = cC (e / 2) * 4096 + 1 ∧ T e = cC (e / 2) ∧ Mn e = 1 := fun e he z => by
    obtain ⟨-, q2, q3⟩ := h.1 e ((nw e he).mpr ((kn e he).mp z))
    unfold kk
    rw [q2, q3]
    exact ⟨by omega, by omega, rfl⟩
  refine ⟨DInv.start (fun e he => ?_) (fun e a b => ?_), h.2.2.1, fun y => ?_, fun _ z => z.elim, fun _ z => z.elim, h.2.2.2.2.1, fun w a b => ?_, h.2.2.2.2.2.1, h.2.2.2.2.2.2, h.K1 hK1⟩
  · unfold DM at he ⊢
    by_cases q : e < 2 * k ∧ K e ≠ 0
    · rw [if_pos q]
      obtain ⟨a, b⟩ := (kn e q.1).mp q.2
      exact ⟨⟨q.1, a⟩, b, (val e q.1 q.2).1⟩
    · rw [if_neg q] at he; exact absurd rfl he
  · have q : e < 2 * k ∧ K e ≠ 0 := ⟨a.1, (kn e a.1).mpr ⟨a.2, b⟩⟩
    show DM k K T Mn e = _
    unfold DM
    rw [if_pos q]
    exact (val e q.1 q.2).1
  · rw [h.2.2.2.1 y]
    constructor
    · rintro (⟨i, hi, _⟩ | z)
      · omega
      · have := gd y
        have hy : y < 2 * k := by have := z.1.2.1; omega
        exact ⟨hy, (kn y hy).mpr ((nw y hy).mp z), id⟩
    · rintro ⟨a, b, -⟩
      exact Or.inr ((nw y a).mpr ((kn y a).mp b))
  · obtain ⟨-, q2, q3⟩ := val w a b
    have := hcC (w / 2) (by omega)
    rw [q2, q3]
    omega
theorem mv_step {k s c M tk : Nat} {Lo Hi cC cZ g : Nat → Nat} {B : Nat → Nat → Nat → Prop} {T Mn K A A1 T' Mn' K' A' : Nat → Nat} {c' : Nat} {dn pp : Nat → Prop} (gd : ∀ w, g w / 2 = w / 2) (hcC : ∀ r, r < k → cC r ≤ 1000000000) (hS : MV k s Lo Hi cC cZ g B T Mn K A (c + 1) dn pp M tk) (h2 : ∀ y, hIn A1 c y ↔ (hIn A (c + 1) y ∧ y ≠ A 0)) (hmin : ∀ y, y < 2 * k → K y ≠ 0 → ¬ dn y → kk T Mn (A 0) ≤ kk T Mn y)
    (h : RI k Lo Hi cC cZ g (stM Lo Hi (g (xr (A 0)))) K T Mn A1 c (fun e => ¬ B (stM Lo Hi (g (A 0))) (stM Lo Hi (g e)) (stM Lo Hi (g (xr e)))) (T (A 0)) (Mn (A 0)) (tk + 1) (2 * k) T' Mn' K' A' c') : MV k s Lo Hi cC cZ g B T' Mn' K' A' c' (fun e => dn e ∨ e = A 0) (fun e => pp e ∨ e = A 0) (kk T Mn (A 0)) (tk + 1) := by
  obtain ⟨s1, s2, s3, s4, s5, s6, s7, s8, s9, s10⟩ := hS
  obtain ⟨e0, he0⟩ : ∃ e0, e0 = A 0 := ⟨_, rfl⟩
  rw [← he0] at h h2 hmin ⊢
  obtain ⟨m1, m2, m3⟩ := (s3 e0).mp ⟨0, by omega, he0.symm⟩
  have b0 := s7 e0 m1 m2
  have dz : ∀ e, DM k K T Mn e = 0 ↔ ¬ (e < 2 * k ∧ K e ≠ 0) := fun e => by
    unfold DM
    by_cases q : e < 2 * k ∧ K e ≠ 0
    · rw [if_pos q]
      have := (s7 e q.1 q.2).2.2
      unfold kk
      exact ⟨fun z => by omega, fun z => absurd q z⟩
    · rw [if_neg q]; exact ⟨fun _ => q, fun _ => rfl⟩
  have d0 : DM k K T Mn e0 = kk T Mn e0 := if_pos ⟨m1, m2⟩
  have nw : ∀ e, (NW k Lo Hi cZ g (stM Lo Hi (g (xr e0))) K (fun e => ¬ B (stM Lo Hi (g e0)) (stM Lo Hi (g e)) (stM Lo Hi (g (xr e)))) (2 * k) e ↔ ((e < 2 * k ∧ cZ (e / 2) = 0) ∧ stM Lo Hi (g e) = stM Lo Hi (g (xr e0)) ∧ DM k K T Mn e = 0 ∧ ¬ B (stM Lo Hi (g e0)) (stM Lo Hi (g e)) (stM Lo Hi (g (xr e))))) := fun e => by
    have := gd e
    rw [dz e]
    constructor
    · rintro ⟨⟨a, b, d, f⟩, p, q⟩
      exact ⟨⟨by omega, d⟩, f, fun z => z.2 p, q⟩
    · rintro ⟨⟨a, d⟩, f, p, q⟩
      refine ⟨⟨by omega, by omega, d, f⟩, ?_, q⟩
      by_cases z : K e = 0
      · exact z
      · exact absurd ⟨a, z⟩ p
  have same : ∀ e, ¬ NW k Lo Hi cZ g (stM Lo Hi (g (xr e0))) K (fun e => ¬ B (stM Lo Hi (g e0)) (stM Lo Hi (g e)) (stM Lo Hi (g (xr e)))) (2 * k) e → DM k K' T' Mn' e = DM k K T Mn e := fun e z => by
    obtain ⟨q1, q2, q3⟩ := h.2.1 e z
    unfold DM kk
    rw [q1, q2, q3]
  have newv : ∀ e, NW k Lo Hi cZ g (stM Lo Hi (g (xr e0))) K (fun e => ¬ B (stM Lo Hi (g e0)) (stM Lo Hi (g e)) (stM Lo Hi (g (xr e)))) (2 * k) e → DM k K' T' Mn' e = cC (e / 2) * 4096 + 1 + kk T Mn e0 := fun e z => by
    obtain ⟨q1, q2, q3⟩ := h.1 e z
    have hem := ((nw e).mp z).1.1
    unfold DM
    rw [if_pos ⟨hem, by rw [q1]; decide⟩]
    unfold kk
    rw [q2, q3]
    omega
  have st := s1.step (D' := DM k K' T' Mn') (e0 := e0) (fun e _ => by show 0 < cC (e / 2) * 4096 + 1; omega) (by rw [d0]; unfold kk; omega) (fun z => m3 (s4 e0 z)) (fun e a b => by
      have q : e < 2 * k ∧ K e ≠ 0 := by
        by_cases q : e < 2 * k ∧ K e ≠ 0
        · exact q
        · exact absurd ((dz e).mpr q) a
      rw [d0, show DM k K T Mn e = kk T Mn e from if_pos q]
      exact hmin e q.1 q.2 b) (fun e a b d f => by rw [d0]; exact newv e ((nw e).mpr ⟨a, b, d, f⟩)) (fun e a => same e (fun z => a ((nw e).mp z)))
  rw [d0] at st
  refine ⟨st, h.2.2.1, fun y => ?_, fun y z => z.elim (fun z => Or.inl (s4 y z)) Or.inr, fun y z => ?_, h.2.2.2.2.1, fun w a b => ?_, h.2.2.2.2.2.1, h.2.2.2.2.2.2, h.K1 s10⟩
  · rw [h.2.2.2.1 y, h2 y, s3 y]
    constructor
    · rintro (⟨⟨a, b, d⟩, f⟩ | z)
      · have q : ¬ NW k Lo Hi cZ g (stM Lo Hi (g (xr e0))) K (fun e => ¬ B (stM Lo Hi (g e0)) (stM Lo Hi (g e)) (stM Lo Hi (g (xr e)))) (2 * k) y := fun z => b z.2.1
        rw [(h.2.1 y q).1]
        exact ⟨a, b, fun z => z.elim d f⟩
      · rw [(h.1 y z).1]
        refine ⟨((nw y).mp z).1.1, by decide, fun w => ?_⟩
        rcases w with w | w
        · exact (s5 y w).2 z.2.1
        · rw [w] at z; exact m2 z.2.1
    · rintro ⟨a, b, d⟩
      by_cases q : NW k Lo Hi cZ g (stM Lo Hi (g (xr e0))) K (fun e => ¬ B (stM Lo Hi (g e0)) (stM Lo Hi (g e)) (stM Lo Hi (g (xr e)))) (2 * k) y
      · exact Or.inr q
      · rw [(h.2.1 y q).1] at b
        exact Or.inl ⟨⟨a, b, fun z => d (Or.inl z)⟩, fun z => d (Or.inr z)⟩
  · have old : ∀ y, y < 2 * k → K y ≠ 0 → y < 2 * k ∧ K' y ≠ 0 := fun y a b => by
      rw [(h.2.1 y (fun z => b z.2.1)).1]
      exact ⟨a, b⟩
    rcases z with z | z
    · exact old y (s5 y z).1 (s5 y z).2
    · rw [z]; exact old e0 m1 m2
  · by_cases q : NW k Lo Hi cZ g (stM Lo Hi (g (xr e0))) K (fun e => ¬ B (stM Lo Hi (g e0)) (stM Lo Hi (g e)) (stM Lo Hi (g (xr e)))) (2 * k) w
    · obtain ⟨-, q2, q3⟩ := h.1 w q
      have hcw := hcC (w / 2) (by omega)
      rw [q2, q3]
      refine ⟨?_, Nat.succ_le_succ b0.2.1, Nat.le_add_left 1 _⟩
      rw [Nat.succ_mul (tk + 1), Nat.add_comm (cC (w / 2))]
      exact Nat.add_le_add b0.1 hcw
    · obtain ⟨q1, q2, q3⟩ := h.2.1 w q
      rw [q1] at b
      rw [q2, q3]
      have := s7 w a b
      exact ⟨Nat.le_trans this.1 (Nat.mul_le_mul_right _ (Nat.le_succ _)), Nat.le_succ_of_le this.2.1, this.2.2⟩
/-! route's arcs: searched from the end -/
theorem rlxR_l {N n k q e0 tk : Nat} {Lo Hi cC cZ Bm : Nat → Nat} {Cs : Nat → Nat → Int32} {Bar : Nat → Nat → Nat → Prop} {K0 T0 M0 A0 : Nat → Nat} {c0 : Nat} {vF vX : Nat → Int32} {post k34 : Int32 → (Nat → Int64) → (Nat → Int32) → (Nat → Int32) → (Nat → Int32) → (Nat → Int32) → (Nat → Int32) → Prop} (h : MT n k Lo Hi cC cZ Cs) (hB : BT n q Bm Bar) (hN : 4000 < N) (hch : CH n k Lo Hi cZ vF vX) (he0 : e0 < 2 * k) (hk0 : K0 e0 ≠ 0) (hK1 : ∀ w, K0 w ≤ 1) (hA0 : ∀ y, hIn A0 c0 y → y < 2 * k ∧ K0 y ≠ 0) (ht0 : T0 e0 < 2 ^ 62) (hm0 : M0 e0 < 4095)
    (hk : ∀ T' Mn' K' A' c', RI k Lo Hi cC cZ xr (stM Lo Hi e0) K0 T0 M0 A0 c0 (fun e => ¬ Bar (stM Lo Hi e) (stM Lo Hi (xr e)) (stM Lo Hi (xr e0))) (T0 e0) (M0 e0) tk (2 * k) T' Mn' K' A' c' → k34 (nI c') (aL T') (aI Mn') (aI K') vF vX (aI A')) :
    ∀ (t lo c : Nat) (r : Int32) (T Mn K A : Nat → Nat), lo ≤ 2 * k → 2 * k - lo < t → RI k Lo Hi cC cZ xr (stM Lo Hi e0) K0 T0 M0 A0 c0 (fun e => ¬ Bar (stM Lo Hi e) (stM Lo Hi (xr e)) (stM Lo Hi (xr e0))) (T0 e0) (M0 e0) tk lo T Mn K A c → NX k Lo Hi cZ (stM Lo Hi e0) lo r → w_X5_spread_b57 N (nI q) (aI Lo) (aI Hi) (aI cC) (aI Bm) post k34 t (nI c) (aL T) (aI Mn) (aI K) vF vX (aI A) (nI e0) r := by
  obtain ⟨n1, n2, n3⟩ := h.1
  have hx0 := xr_lt he0
  intro t
  induction t with
  | zero => intro lo c r T Mn K A _ z; omega
  | succ t ih =>
    intro lo c r T Mn K A k1 k2 hR hX
    show w_X5_spread_b57_B N (nI q) (aI Lo) (aI Hi) (aI cC) (aI Bm) post k34 _ (nI c) (aL T) (aI Mn) (aI K) vF vX (aI A) (nI e0) r
    unfold w_X5_spread_b57_B
    have nb := fun (x : Nat) (b1 : ∀ w', lo ≤ w' → w' < x → ¬ (cZ (w' / 2) = 0 ∧ stM Lo Hi w' = stM Lo Hi e0)) (y : Nat) (z : NW k Lo Hi cZ xr (stM Lo Hi e0) K0 (fun e => ¬ Bar (stM Lo Hi e) (stM Lo Hi (xr e)) (stM Lo Hi (xr e0))) x y) => (show NW k Lo Hi cZ xr (stM Lo Hi e0) K0 (fun e => ¬ Bar (stM Lo Hi e) (stM Lo Hi (xr e)) (stM Lo Hi (xr e0))) lo y by
      obtain ⟨⟨a, b, d, f⟩, p, q'⟩ := z
      by_cases c1 : xr y < lo
      · exact ⟨⟨c1, b, d, f⟩, p, q'⟩
      · exact absurd ⟨by rw [xr_div]; exact d, f⟩ (b1 (xr y) (by omega) a))
    rcases hX with ⟨w, x1, x2, x3, x4, x5, x6⟩ | ⟨x1, x2⟩
    · subst x5
      have hxw := xr_lt x2
      refine ⟨fun z => absurd z (nI_pos (by omega)), fun _ y hy => ?_⟩
      have ey : y = nI (xr w) := by rw [hy]; exact nI_xor (by omega)
      subst ey
      have hnx := hch.2 w x2 x3
      rw [x4] at hnx
      have Kb := hR.K1 hK1 (xr w)
      rw [nI_clamp (by omega), nI_clamp (by omega), nI_clamp (by omega), show aI K (xr w) = nI (K (xr w)) from rfl, show (0 : Int32) = nI 0 from rfl, nI_eq (a := K (xr w)) (b := 0) (by omega) (by omega)]
      have skip : ¬ (K0 (xr w) = 0 ∧ ¬ Bar (stM Lo Hi (xr w)) (stM Lo Hi (xr (xr w))) (stM Lo Hi (xr e0))) → ∀ x' : Int32, x' = vX w → w_X5_spread_b57 N (nI q) (aI Lo) (aI Hi) (aI cC) (aI Bm) post k34 t (nI c) (aL T) (aI Mn) (aI K) vF vX (aI A) (nI e0) x' := by
        intro hs x' ex'
        rw [ex']
        refine ih (w + 1) c (vX w) T Mn K A (by omega) (by omega) (hR.to (fun y => ⟨fun z => ?_, fun z => ⟨⟨by have := z.1.1; omega, z.1.2⟩, z.2⟩⟩)) hnx
        by_cases c1 : xr y = w
        · exfalso
          have : y = xr w := by rw [← c1, xr_xr]
          rw [this] at z
          exact hs z.2
        · exact nb w x6 y ⟨⟨by have := z.1.1; omega, z.1.2⟩, z.2⟩
      have nn : ¬ NW k Lo Hi cZ xr (stM Lo Hi e0) K0 (fun e => ¬ Bar (stM Lo Hi e) (stM Lo Hi (xr e)) (stM Lo Hi (xr e0))) lo (xr w) := fun z => by have := z.1.1; rw [xr_xr] at this; omega
      have hKK := (hR.2.1 (xr w) nn).1
      refine ⟨vp_in_nI (by omega) (by omega), fun hz => ⟨vp_in_nI (by omega) (by omega), skip (fun z => hz (by rw [hKK]; exact z.1))⟩, fun hz => ?_⟩
      refine start_s (by omega) (end_s (by omega) (end_s (by omega) ?_))
      refine barAt_b hB hN (h.st hxw) (h.st (by rw [xr_xr]; exact x2)) (h.st hx0) (fun hb tt htt => ⟨fun _ => ⟨vp_in_nI (by omega) (by omega), skip (fun z => z.2 hb)⟩, fun z => absurd (nI_pos' (by omega)) z⟩) (fun hb => ⟨fun z => absurd z (by decide), fun _ => ⟨vp_in_nI (by omega) (by omega), ?_⟩⟩)
      have hK0 : K0 (xr w) = 0 := by rw [← hKK]; exact hz
      obtain ⟨p1, p2, p3, p4, p5⟩ := hR.pre xr_xr xr_div n3 hA0 x1 x2 hK0
      obtain ⟨o1, o2, o3⟩ := hR.2.1 e0 (fun z => hk0 z.2.1)
      have lcc := h.2.2.1 (xr w / 2) (by omega)
      rw [show aL T e0 = lN (T e0) from rfl, show aI Mn e0 = nI (Mn e0) from rfl, o2, o3]
      refine known_s hN n3 p1 p2 p3 lcc.2.2.2.1 ht0 hm0 hR.2.2.2.2.2.1 hR.2.2.2.2.2.2 hR.2.2.1 p4 (fun A' a1 a2 => ⟨vp_in_nI (by omega) (by omega), fun x' ex' => ?_⟩)
      rw [ex']
      exact ih (w + 1) (c + 1) (vX w) _ _ _ A' (by omega) (by omega) (hR.add xr_xr xr_div n3 x1 x2 x3 x4 x6 hK0 hb (by omega) (by omega) a1 a2) hnx
    · subst x1
      refine ⟨fun _ => hk T Mn K A c (hR.to (fun y => ⟨fun z => nb (2 * k) x2 y z, fun z => ⟨⟨by have := z.1.2.1; omega, z.1.2⟩, z.2⟩⟩)), fun z => absurd m1_lt z⟩
theorem iniR_l {N n k q to_ : Nat} {Lo Hi cC cZ Bm : Nat → Nat} {Cs : Nat → Nat → Int32} {K0 T0 M0 A0 : Nat → Nat} {vF vX : Nat → Int32} {post : Int32 → (Nat → Int64) → (Nat → Int32) → (Nat → Int32) → (Nat → Int32) → (Nat → Int32) → (Nat → Int32) → Prop} (h : MT n k Lo Hi cC cZ Cs) (hN : 4000 < N) (hch : CH n k Lo Hi cZ vF vX) (hK0 : ∀ w, w < 2 * k → K0 w = 0)
    (hk : ∀ T' Mn' K' A' c', RI k Lo Hi cC cZ xr to_ K0 T0 M0 A0 0 (fun _ => True) 0 0 0 (2 * k) T' Mn' K' A' c' → w_X5_spread_b34 N (nI q) (aI Lo) (aI Hi) (aI cC) (aI Bm) post N (nI c') (aL T') (aI Mn') (aI K') vF vX (aI A')) :
    ∀ (t lo c : Nat) (r : Int32) (T Mn K A : Nat → Nat), lo ≤ 2 * k → 2 * k - lo < t → RI k Lo Hi cC cZ xr to_ K0 T0 M0 A0 0 (fun _ => True) 0 0 0 lo T Mn K A c → NX k Lo Hi cZ to_ lo r → w_X5_spread_b11 N (nI q) (aI Lo) (aI Hi) (aI cC) (aI Bm) post t (nI c) (aL T) (aI Mn) (aI K) vF vX (aI A) r := by
  obtain ⟨n1, n2, n3⟩ := h.1
  intro t
  induction t with
  | zero => intro lo c r T Mn K A _ z; omega
  | succ t ih =>
    intro lo c r T Mn K A k1 k2 hR hX
    show w_X5_spread_b11_B N (nI q) (aI Lo) (aI Hi) (aI cC) (aI Bm) post _ (nI c) (aL T) (aI Mn) (aI K) vF vX (aI A) r
    unfold w_X5_spread_b11_B
    rcases hX with ⟨w, x1, x2, x3, x4, x5, x6⟩ | ⟨x1, x2⟩
    · subst x5
      have hxw := xr_lt x2
      have hnx := hch.2 w x2 x3
      rw [x4] at hnx
      have hK00 := hK0 (xr w) hxw
      obtain ⟨p1, p2, p3, p4, p5⟩ := hR.pre xr_xr xr_div n3 (fun y ⟨i, hi, _⟩ => by omega) x1 x2 hK00
      have lcc := h.2.2.1 (xr w / 2) (by omega)
      rw [nI_xor (by omega), nI_clamp (by omega)]
      refine ⟨fun z => absurd z (nI_pos (by omega)), fun _ => ?_⟩
      rw [show (0 : Int64) = lN 0 from rfl, show (0 : Int32) = nI 0 from rfl]
      refine known_s hN n3 p1 p2 p3 lcc.2.2.2.1 (by omega) (by omega) hR.2.2.2.2.2.1 hR.2.2.2.2.2.2 hR.2.2.1 p4 (fun A' a1 a2 => ⟨vp_in_nI (by omega) (by omega), fun x' ex' => ?_⟩)
      rw [ex']
      exact ih (w + 1) (c + 1) (vX w) _ _ _ A' (by omega) (by omega) (hR.add xr_xr xr_div n3 x1 x2 x3 x4 x6 hK00 trivial (by omega) (by omega) a1 a2) hnx
    · subst x1
      refine ⟨fun _ => hk T Mn K A c (hR.to (fun y => ⟨fun z => ?_, fun z => ⟨⟨by have := z.1.2.1; omega, z.1.2⟩, z.2⟩⟩)), fun z => absurd m1_lt z⟩
      obtain ⟨⟨a, b, d, f⟩, p, q'⟩ := z
      by_cases c1 : xr y < lo
      · exact ⟨⟨c1, b, d, f⟩, p, q'⟩
      · exact absurd ⟨by rw [xr_div]; exact d, f⟩ (x2 (xr y) (by omega) b)
theorem mspread_l {N n k q s : Nat} {Lo Hi cC cZ Bm : Nat → Nat} {Cs : Nat → Nat → Int32} {Bar : Nat → Nat → Nat → Prop} {vF vX : Nat → Int32} {post : Int32 → (Nat → Int64) → (Nat → Int32) → (Nat → Int32) → (Nat → Int32) → (Nat → Int32) → (Nat → Int32) → Prop} (h : MT n k Lo Hi cC cZ Cs) (hB : BT n q Bm Bar) (hN : 4001 < N) (hch : CH n k Lo Hi cZ vF vX)
    (hp : ∀ T Mn K A dn M tk, tk ≤ 4000 → MV k s Lo Hi cC cZ xr (fun x y z => Bar z y x) T Mn K A 0 dn dn M tk → post 0 (aL T) (aI Mn) (aI K) vF vX (aI A)) :
    ∀ (t tk c M : Nat) (T Mn K A : Nat → Nat) (dn : Nat → Prop), 4000 < t + tk → MV k s Lo Hi cC cZ xr (fun x y z => Bar z y x) T Mn K A c dn dn M tk → w_X5_spread_b34 N (nI q) (aI Lo) (aI Hi) (aI cC) (aI Bm) post t (nI c) (aL T) (aI Mn) (aI K) vF vX (aI A) := by
  obtain ⟨n1, n2, n3⟩ := h.1
  intro t
  induction t with
  | zero =>
    intro tk c M T Mn K A dn z hS
    have := cn_le (fun w => decide (K w ≠ 0)) (2 * k)
    have := hS.2.2.2.2.2.1
    omega
  | succ t ih =>
    intro tk c M T Mn K A dn kt hS
    have hle := cn_le (fun w => decide (K w ≠ 0)) (2 * k)
    have hcn := hS.2.2.2.2.2.1
    show w_X5_spread_b34_B N (nI q) (aI Lo) (aI Hi) (aI cC) (aI Bm) post _ (nI c) (aL T) (aI Mn) (aI K) vF vX (aI A)
    unfold w_X5_spread_b34_B
    refine pk_le c 0 (fun z => ?_) (fun z => ?_)
    · have e : c = 0 := by omega
      subst e
      exact hp T Mn K A dn M tk (by omega) hS
    · obtain ⟨c', rfl⟩ : ∃ c', c = c' + 1 := ⟨c - 1, by omega⟩
      obtain ⟨s1, s2, s3, s4, s5, s6, s7, s8, s9, s10⟩ := id hS
      have hAm : ∀ i, i < c' + 1 → A i < 2 * k := fun i hi => ((s3 (A i)).mp ⟨i, hi, rfl⟩).1
      refine pull_s (by omega) (by omega) (fun i hi => by have := hAm i hi; omega) s8 s9 s2 (fun A1 a1 a2 => ?_)
      obtain ⟨m1, m2, m3⟩ := (s3 (A 0)).mp ⟨0, by omega, rfl⟩
      have b0 := s7 (A 0) m1 m2
      refine start_s (by omega) ⟨vp_in_nI (by have := h.st m1; omega) (by omega), fun x3 e3 => ?_⟩
      have hv := h.st m1
      have hnx := hch.1 (stM Lo Hi (A 0)) hv
      rw [nI_clamp (by omega)] at e3
      rw [← e3] at hnx
      refine rlxR_l (tk := tk + 1) h hB (by omega) hch m1 m2 s10 (fun y hy => ?_) (by omega) (by omega) (fun T' Mn' K' A' c'' hR => ?_) N 0 c' x3 T Mn K A1 (by omega) (by omega) (RI.start a1 (by omega) s8 s9) hnx
      · obtain ⟨q1, -⟩ := (a2 y).mp hy
        obtain ⟨q2, q3, -⟩ := (s3 y).mp q1
        exact ⟨q2, q3⟩
      · have e1 : stM Lo Hi (xr (xr (A 0))) = stM Lo Hi (A 0) := by rw [xr_xr]
        have hR' : RI k Lo Hi cC cZ xr (stM Lo Hi (xr (xr (A 0)))) K T Mn A1 c' (fun e => ¬ (fun x y z => Bar z y x) (stM Lo Hi (xr (A 0))) (stM Lo Hi (xr e)) (stM Lo Hi (xr (xr e)))) (T (A 0)) (Mn (A 0)) (tk + 1) (2 * k) T' Mn' K' A' c'' := by
          rw [e1]
          have e2 : (fun e => ¬ (fun x y z => Bar z y x) (stM Lo Hi (xr (A 0))) (stM Lo Hi (xr e)) (stM Lo Hi (xr (xr e)))) = (fun e => ¬ Bar (stM Lo Hi e) (stM Lo Hi (xr e)) (stM Lo Hi (xr (A 0)))) := by
            funext e
            show (¬ Bar (stM Lo Hi (xr (xr e))) (stM Lo Hi (xr e)) (stM Lo Hi (xr (A 0)))) = _
            rw [xr_xr]
          rw [e2]
          exact hR
        have st := mv_step (B := fun x y z => Bar z y x) xr_div (fun r hr => (h.2.2.1 r hr).2.2.2.1) hS a2 (fun y a b d => by
          obtain ⟨i, hi, ei⟩ := (s3 y).mpr ⟨a, b, d⟩
          rw [← ei]
          exact hp_min s2.1 i hi) hR'
        exact ih (tk + 1) c'' _ T' Mn' K' A' _ (by omega) st
/-- spread() of the reference -/
theorem mspread_s {N n k q s : Nat} {Lo Hi cC cZ Bm T Mn K A : Nat → Nat} {Cs : Nat → Nat → Int32} {Bar : Nat → Nat → Nat → Prop} {vHN : Int32} {vF vX : Nat → Int32} {post : Int32 → (Nat → Int64) → (Nat → Int32) → (Nat → Int32) → (Nat → Int32) → (Nat → Int32) → (Nat → Int32) → Prop} (h : MT n k Lo Hi cC cZ Cs) (hB : BT n q Bm Bar) (hN : 4001 < N) (hs : s < n) (hT : ∀ j, T j < 2 ^ 63) (hM : ∀ j, Mn j < 4096) (hK1 : ∀ w, K w ≤ 1)
    (hp : ∀ T Mn K A vF vX dn M tk, tk ≤ 4000 → CH n k Lo Hi cZ vF vX → MV k s Lo Hi cC cZ xr (fun x y z => Bar z y x) T Mn K A 0 dn dn M tk → post 0 (aL T) (aI Mn) (aI K) vF vX (aI A)) : w_X5_spread N (nI n) (nI k) (nI q) vHN (aI Lo) (aI Hi) (aI cC) (aI cZ) (aI Bm) (aL T) (aI Mn) (aI K) vF vX (aI A) (nI s) post := by
  obtain ⟨n1, n2, n3⟩ := h.1
  unfold w_X5_spread
  refine mbegin_s h (by omega) hK1 (fun K' vF' vX' kk1 kk0 hch => ⟨vp_in_nI (by omega) (by omega), fun x2 e2 => ?_⟩)
  rw [nI_clamp (by omega)] at e2
  have hnx := hch.1 s hs
  rw [← e2] at hnx
  have ri := RI.start (k := k) (Lo := Lo) (Hi := Hi) (cC := cC) (cZ := cZ) (g := xr) (v := s) (K0 := K') (T0 := T) (M0 := Mn) (A0 := A) (c0 := 0) (P := fun _ => True) (t0 := 0) (m0 := 0) (tk := 0) ⟨fun i _ z => by omega, fun i j z => by omega⟩ (cn_zero (fun i hi => by simp [kk0 i hi])) hT hM
  exact iniR_l (A0 := A) h (by omega) hch kk0 (fun T1 M1 K1 A1 c1 hR => mspread_l h hB hN hch (fun T2 M2 K2 A2 dn M tk z1 z2 => hp T2 M2 K2 A2 vF' vX' dn M tk z1 hch z2) N 0 c1 0 T1 M1 K1 A1 _ (by omega) (mv_start xr_div (fun r hr => (h.2.2.1 r hr).2.2.2.1) kk0 kk1 hR)) N 0 0 x2 T Mn K' A (by omega) (by omega) ri hnx
