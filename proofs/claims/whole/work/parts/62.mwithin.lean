/-! within() of the reference -/
theorem id_div (w : Nat) : (fun e : Nat => e) w / 2 = w / 2 := rfl
theorem rlxW_l {N n k q e0 tk : Nat} {Lo Hi cC cZ Bm G : Nat → Nat} {Cs : Nat → Nat → Int32} {Bar : Nat → Nat → Nat → Prop} {K0 T0 M0 A0 : Nat → Nat} {c0 : Nat} {x5 : Int32} {vF vX : Nat → Int32} {post : Int32 → Int32 → (Nat → Int64) → (Nat → Int32) → (Nat → Int32) → (Nat → Int32) → (Nat → Int32) → (Nat → Int32) → Prop} {k72 : Int32 → (Nat → Int64) → (Nat → Int32) → (Nat → Int32) → (Nat → Int32) → (Nat → Int32) → (Nat → Int32) → (Nat → Int32) → Int32 → Prop} (h : MT n k Lo Hi cC cZ Cs) (hB : BT n q Bm Bar) (hN : 4000 < N) (hch : CH n k Lo Hi cZ vF vX) (he0 : e0 < 2 * k) (hk0 : K0 e0 ≠ 0) (hK1 : ∀ w, K0 w ≤ 1) (hA0 : ∀ y, hIn A0 c0 y → y < 2 * k ∧ K0 y ≠ 0) (ht0 : T0 e0 < 2 ^ 62) (hm0 : M0 e0 < 4095)
    (hk : ∀ T' Mn' K' A' c', RI k Lo Hi cC cZ (fun e => e) (stM Lo Hi (xr e0)) K0 T0 M0 A0 c0 (fun e => ¬ Bar (stM Lo Hi e0) (stM Lo Hi e) (stM Lo Hi (xr e))) (T0 e0) (M0 e0) tk (2 * k) T' Mn' K' A' c' → k72 (nI c') (aL T') (aI Mn') (aI K') vF vX (aI A') (aI G) x5) :
    ∀ (t lo c : Nat) (r : Int32) (T Mn K A : Nat → Nat), lo ≤ 2 * k → 2 * k - lo < t → RI k Lo Hi cC cZ (fun e => e) (stM Lo Hi (xr e0)) K0 T0 M0 A0 c0 (fun e => ¬ Bar (stM Lo Hi e0) (stM Lo Hi e) (stM Lo Hi (xr e))) (T0 e0) (M0 e0) tk lo T Mn K A c → NX k Lo Hi cZ (stM Lo Hi (xr e0)) lo r → w_X5_within_b138 N (nI q) (aI Lo) (aI Hi) (aI cC) (aI Bm) post k72 t (nI c) (aL T) (aI Mn) (aI K) vF vX (aI A) (aI G) x5 (nI e0) r := by
  obtain ⟨n1, n2, n3⟩ := h.1
  intro t
  induction t with
  | zero => intro lo c r T Mn K A _ z; omega
  | succ t ih =>
    intro lo c r T Mn K A k1 k2 hR hX
    show w_X5_within_b138_B N (nI q) (aI Lo) (aI Hi) (aI cC) (aI Bm) post k72 _ (nI c) (aL T) (aI Mn) (aI K) vF vX (aI A) (aI G) x5 (nI e0) r
    unfold w_X5_within_b138_B
    have nb := fun (x : Nat) (b1 : ∀ w', lo ≤ w' → w' < x → ¬ (cZ (w' / 2) = 0 ∧ stM Lo Hi w' = stM Lo Hi (xr e0))) (y : Nat) (z : NW k Lo Hi cZ (fun e => e) (stM Lo Hi (xr e0)) K0 (fun e => ¬ Bar (stM Lo Hi e0) (stM Lo Hi e) (stM Lo Hi (xr e))) x y) => (show NW k Lo Hi cZ (fun e => e) (stM Lo Hi (xr e0)) K0 (fun e => ¬ Bar (stM Lo Hi e0) (stM Lo Hi e) (stM Lo Hi (xr e))) lo y by
      obtain ⟨⟨a, b, d, f⟩, p, q'⟩ := z
      by_cases c1 : y < lo
      · exact ⟨⟨c1, b, d, f⟩, p, q'⟩
      · exact absurd ⟨d, f⟩ (b1 y (by omega) a))
    rcases hX with ⟨w, x1, x2, x3, x4, x5', x6⟩ | ⟨x1, x2⟩
    · subst x5'
      have hxw := xr_lt x2
      refine ⟨fun z => absurd z (nI_pos (by omega)), fun _ => ?_⟩
      have hnx := hch.2 w x2 x3
      rw [x4] at hnx
      have Kb := hR.K1 hK1 w
      rw [nI_clamp (by omega), nI_clamp (by omega), show aI K w = nI (K w) from rfl, show (0 : Int32) = nI 0 from rfl, nI_eq (a := K w) (b := 0) (by omega) (by omega)]
      have skip : ¬ (K0 w = 0 ∧ ¬ Bar (stM Lo Hi e0) (stM Lo Hi w) (stM Lo Hi (xr w))) → ∀ x' : Int32, x' = vX w → w_X5_within_b138 N (nI q) (aI Lo) (aI Hi) (aI cC) (aI Bm) post k72 t (nI c) (aL T) (aI Mn) (aI K) vF vX (aI A) (aI G) x5 (nI e0) x' := by
        intro hs x' ex'
        rw [ex']
        refine ih (w + 1) c (vX w) T Mn K A (by omega) (by omega) (hR.to (fun y => ⟨fun z => ?_, fun z => ⟨⟨by have := z.1.1; omega, z.1.2⟩, z.2⟩⟩)) hnx
        by_cases c1 : y = w
        · exfalso
          rw [c1] at z
          exact hs z.2
        · exact nb w x6 y ⟨⟨by have h9 : y < w + 1 := z.1.1; show y < w; omega, z.1.2⟩, z.2⟩
      have nn : ¬ NW k Lo Hi cZ (fun e => e) (stM Lo Hi (xr e0)) K0 (fun e => ¬ Bar (stM Lo Hi e0) (stM Lo Hi e) (stM Lo Hi (xr e))) lo w := fun z => by have h9 : w < lo := z.1.1; omega
      have hKK := (hR.2.1 w nn).1
      refine ⟨vp_in_nI (by omega) (by omega), fun hz => skip (fun z => hz (by rw [hKK]; exact z.1)), fun hz => ?_⟩
      refine start_s (by omega) (start_s (by omega) (end_s (by omega) ?_))
      refine barAt_b hB hN (h.st he0) (h.st x2) (h.st hxw) (fun hb tt htt => ⟨fun _ => skip (fun z => z.2 hb), fun z => absurd (nI_pos' (by omega)) z⟩) (fun hb => ⟨fun z => absurd z (by decide), fun _ => ⟨vp_in_nI (by omega) (by omega), ?_⟩⟩)
      have hK0 : K0 w = 0 := by rw [← hKK]; exact hz
      obtain ⟨p1, p2, p3, p4, p5⟩ := hR.pre (fun _ => rfl) id_div n3 hA0 x1 x2 hK0
      obtain ⟨o1, o2, o3⟩ := hR.2.1 e0 (fun z => hk0 z.2.1)
      have lcc := h.2.2.1 (w / 2) (by omega)
      rw [show aL T e0 = lN (T e0) from rfl, show aI Mn e0 = nI (Mn e0) from rfl, o2, o3]
      refine known_s hN n3 p1 p2 p3 lcc.2.2.2.1 ht0 hm0 hR.2.2.2.2.2.1 hR.2.2.2.2.2.2 hR.2.2.1 p4 (fun A' a1 a2 => fun x' ex' => ?_)
      rw [ex']
      exact ih (w + 1) (c + 1) (vX w) _ _ _ A' (by omega) (by omega) (hR.add (fun _ => rfl) id_div n3 x1 x2 x3 x4 x6 hK0 hb (by show cC (w / 2) + _ < _; omega) (by omega) a1 a2) hnx
    · subst x1
      refine ⟨fun _ => hk T Mn K A c (hR.to (fun y => ⟨fun z => nb (2 * k) x2 y z, fun z => ⟨⟨by have := z.1.2.1; omega, z.1.2⟩, z.2⟩⟩)), fun z => absurd m1_lt z⟩
theorem iniW_l {N n k q a_ : Nat} {Lo Hi cC cZ Bm G : Nat → Nat} {Cs : Nat → Nat → Int32} {K0 T0 M0 A0 : Nat → Nat} {x5 : Int32} {xm : Int64} {vN : Int32} {vF vX : Nat → Int32} {post : Int32 → Int32 → (Nat → Int64) → (Nat → Int32) → (Nat → Int32) → (Nat → Int32) → (Nat → Int32) → (Nat → Int32) → Prop} (h : MT n k Lo Hi cC cZ Cs) (hN : 4000 < N) (hch : CH n k Lo Hi cZ vF vX) (hK0 : ∀ w, w < 2 * k → K0 w = 0)
    (hk : ∀ T' Mn' K' A' c', RI k Lo Hi cC cZ (fun e => e) a_ K0 T0 M0 A0 0 (fun _ => True) 0 0 0 (2 * k) T' Mn' K' A' c' → w_X5_within_b72 N vN (nI q) (aI Lo) (aI Hi) (aI cC) (aI Bm) xm post N (nI c') (aL T') (aI Mn') (aI K') vF vX (aI A') (aI G) x5) :
    ∀ (t lo c : Nat) (r : Int32) (T Mn K A : Nat → Nat), lo ≤ 2 * k → 2 * k - lo < t → RI k Lo Hi cC cZ (fun e => e) a_ K0 T0 M0 A0 0 (fun _ => True) 0 0 0 lo T Mn K A c → NX k Lo Hi cZ a_ lo r → w_X5_within_b47 N vN (nI q) (aI Lo) (aI Hi) (aI cC) (aI Bm) xm post t (nI c) (aL T) (aI Mn) (aI K) vF vX (aI A) (aI G) x5 r := by
  obtain ⟨n1, n2, n3⟩ := h.1
  intro t
  induction t with
  | zero => intro lo c r T Mn K A _ z; omega
  | succ t ih =>
    intro lo c r T Mn K A k1 k2 hR hX
    show w_X5_within_b47_B N vN (nI q) (aI Lo) (aI Hi) (aI cC) (aI Bm) xm post _ (nI c) (aL T) (aI Mn) (aI K) vF vX (aI A) (aI G) x5 r
    unfold w_X5_within_b47_B
    rcases hX with ⟨w, x1, x2, x3, x4, x5', x6⟩ | ⟨x1, x2⟩
    · subst x5'
      have hnx := hch.2 w x2 x3
      rw [x4] at hnx
      have hK00 := hK0 w x2
      obtain ⟨p1, p2, p3, p4, p5⟩ := hR.pre (fun _ => rfl) id_div n3 (fun y ⟨i, hi, _⟩ => by omega) x1 x2 hK00
      have lcc := h.2.2.1 (w / 2) (by omega)
      rw [nI_clamp (by omega)]
      refine ⟨fun z => absurd z (nI_pos (by omega)), fun _ => ?_⟩
      rw [show (0 : Int64) = lN 0 from rfl, show (0 : Int32) = nI 0 from rfl]
      refine known_s hN n3 p1 p2 p3 lcc.2.2.2.1 (by omega) (by omega) hR.2.2.2.2.2.1 hR.2.2.2.2.2.2 hR.2.2.1 p4 (fun A' a1 a2 => ⟨vp_in_nI (by omega) (by omega), fun x' ex' => ?_⟩)
      rw [ex']
      exact ih (w + 1) (c + 1) (vX w) _ _ _ A' (by omega) (by omega) (hR.add (fun _ => rfl) id_div n3 x1 x2 x3 x4 x6 hK00 trivial (by show cC (w / 2) + _ < _; omega) (by omega) a1 a2) hnx
    · subst x1
      refine ⟨fun _ => hk T Mn K A c (hR.to (fun y => ⟨fun z => ?_, fun z => ⟨⟨by have := z.1.2.1; omega, z.1.2⟩, z.2⟩⟩)), fun z => absurd m1_lt z⟩
      obtain ⟨⟨a, b, d, f⟩, p, q'⟩ := z
      by_cases c1 : y < lo
      · exact ⟨⟨c1, b, d, f⟩, p, q'⟩
      · exact absurd ⟨d, f⟩ (x2 y (by omega) b)
theorem mv_skip {k s c M tk : Nat} {Lo Hi cC cZ g : Nat → Nat} {B : Nat → Nat → Nat → Prop} {T Mn K A A1 : Nat → Nat} {dn pp : Nat → Prop} (hS : MV k s Lo Hi cC cZ g B T Mn K A (c + 1) dn pp M tk) (h1 : HpOk (kk T Mn) A1 c) (h2 : ∀ y, hIn A1 c y ↔ (hIn A (c + 1) y ∧ y ≠ A 0)) : MV k s Lo Hi cC cZ g B T Mn K A1 c dn (fun e => pp e ∨ e = A 0) M (tk + 1) := by
  obtain ⟨s1, s2, s3, s4, s5, s6, s7, s8, s9, s10⟩ := hS
  obtain ⟨m1, m2, m3⟩ := (s3 (A 0)).mp ⟨0, by omega, rfl⟩
  refine ⟨s1, h1, fun y => ?_, fun y z => Or.inl (s4 y z), fun y z => ?_, by omega, fun w a b => ?_, s8, s9, s10⟩
  · rw [h2 y, s3 y]
    exact ⟨fun ⟨⟨a, b, d⟩, f⟩ => ⟨a, b, fun z => z.elim d f⟩, fun ⟨a, b, d⟩ => ⟨⟨a, b, fun z => d (Or.inl z)⟩, fun z => d (Or.inr z)⟩⟩
  · rcases z with z | z
    · exact s5 y z
    · rw [z]; exact ⟨m1, m2⟩
  · have := s7 w a b
    exact ⟨Nat.le_trans this.1 (Nat.mul_le_mul_right _ (Nat.le_succ _)), Nat.le_succ_of_le this.2.1, this.2.2⟩
theorem mwithin_l {N n k q s mo : Nat} {Lo Hi cC cZ Bm : Nat → Nat} {Cs : Nat → Nat → Int32} {Bar : Nat → Nat → Nat → Prop} {vF vX : Nat → Int32} {post : Int32 → Int32 → (Nat → Int64) → (Nat → Int32) → (Nat → Int32) → (Nat → Int32) → (Nat → Int32) → (Nat → Int32) → Prop} (h : MT n k Lo Hi cC cZ Cs) (hB : BT n q Bm Bar) (hN : 4001 < N) (hch : CH n k Lo Hi cZ vF vX) (hmo : mo < 2 ^ 63)
    (hp : ∀ (T Mn K A G : Nat → Nat) (dn pp : Nat → Prop) (M tk fd : Nat), MV k s Lo Hi cC cZ (fun e => e) Bar T Mn K A 0 dn pp M tk → (∀ y, pp y → ¬ dn y → mo < T y) → (∀ y, dn y → T y ≤ mo) → (∀ v, v < n → (G v ≠ 0 ↔ (v = s ∨ ∃ f, dn f ∧ stM Lo Hi (xr f) = v))) → cn (fun v => decide (G v ≠ 0)) n = fd → post (nI fd) 0 (aL T) (aI Mn) (aI K) vF vX (aI A)) :
    ∀ (t tk c M fd : Nat) (T Mn K A G : Nat → Nat) (dn pp : Nat → Prop), 4000 < t + tk → MV k s Lo Hi cC cZ (fun e => e) Bar T Mn K A c dn pp M tk → (∀ y, pp y → ¬ dn y → mo < T y) → (∀ y, dn y → T y ≤ mo) → (∀ v, G v ≤ 1) → (∀ v, v < n → (G v ≠ 0 ↔ (v = s ∨ ∃ f, dn f ∧ stM Lo Hi (xr f) = v))) → cn (fun v => decide (G v ≠ 0)) n = fd → w_X5_within_b72 N (nI n) (nI q) (aI Lo) (aI Hi) (aI cC) (aI Bm) (lN mo) post t (nI c) (aL T) (aI Mn) (aI K) vF vX (aI A) (aI G) (nI fd) := by
  obtain ⟨n1, n2, n3⟩ := h.1
  intro t
  induction t with
  | zero =>
    intro tk c M fd T Mn K A G dn pp z hS
    have := cn_le (fun w => decide (K w ≠ 0)) (2 * k)
    have := hS.2.2.2.2.2.1
    omega
  | succ t ih =>
    intro tk c M fd T Mn K A G dn pp kt hS hpp hdn hG1 hG hfd
    have hle := cn_le (fun w => decide (K w ≠ 0)) (2 * k)
    have hcn := hS.2.2.2.2.2.1
    have hfl := cn_le (fun v => decide (G v ≠ 0)) n
    show w_X5_within_b72_B N (nI n) (nI q) (aI Lo) (aI Hi) (aI cC) (aI Bm) (lN mo) post _ (nI c) (aL T) (aI Mn) (aI K) vF vX (aI A) (aI G) (nI fd)
    unfold w_X5_within_b72_B
    refine pk_le c 0 (fun z => ?_) (fun z => ?_)
    · have e : c = 0 := by omega
      subst e
      exact hp T Mn K A G dn pp M tk fd hS hpp hdn hG hfd
    · obtain ⟨c', rfl⟩ : ∃ c', c = c' + 1 := ⟨c - 1, by omega⟩
      obtain ⟨s1, s2, s3, s4, s5, s6, s7, s8, s9, s10⟩ := id hS
      have hAm : ∀ i, i < c' + 1 → A i < 2 * k := fun i hi => ((s3 (A i)).mp ⟨i, hi, rfl⟩).1
      refine pull_s (by omega) (by omega) (fun i hi => by have := hAm i hi; omega) s8 s9 s2 (fun A1 a1 a2 => ?_)
      obtain ⟨m1, m2, m3⟩ := (s3 (A 0)).mp ⟨0, by omega, rfl⟩
      have b0 := s7 (A 0) m1 m2
      have hx0 := xr_lt m1
      have hv := h.st hx0
      rw [nI_clamp (by omega), lg_cmp_le, show aL T (A 0) = lN (T (A 0)) from rfl, pk_lLE (s8 _) hmo]
      refine ⟨vp_in_nI (by omega) (by omega), fun hle2 => end_s (by omega) ?_, fun hgt => ih (tk + 1) c' M fd T Mn K A1 G dn _ (by omega) (mv_skip hS a1 a2) (fun y y1 y2 => ?_) hdn hG1 hG hfd⟩
      · have go : ∀ fd', cn (fun v => decide (va_up G (stM Lo Hi (xr (A 0))) 1 v ≠ 0)) n = fd' → w_X5_within_b115 N (nI n) (nI q) (aI Lo) (aI Hi) (aI cC) (aI Bm) post (w_X5_within_b72 N (nI n) (nI q) (aI Lo) (aI Hi) (aI cC) (aI Bm) (lN mo) post t) (nI c') (aL T) (aI Mn) (aI K) vF vX (aI A1) (aI G) (nI fd') (nI (A 0)) := by
          intro fd' hfd'
          unfold w_X5_within_b115
          refine end_s (by omega) ⟨?_, end_s (by omega) ⟨vp_in_nI (by omega) (by omega), fun x7 e7 => ?_⟩⟩
          · rw [nI_clamp (by omega)]; exact vp_in_nI hv (by omega)
          · have hnx := hch.1 (stM Lo Hi (xr (A 0))) hv
            rw [nI_clamp (by omega)] at e7
            rw [← e7] at hnx
            rw [nI_clamp (by omega), show (1 : Int32) = nI 1 from rfl, aI_updZ G _ 1 (by omega)]
            refine rlxW_l (tk := tk + 1) h hB (by omega) hch m1 m2 s10 (fun y hy => ?_) (by omega) (by omega) (fun T' Mn' K' A' c'' hR => ?_) N 0 c' x7 T Mn K A1 (by omega) (by omega) (RI.start a1 (by omega) s8 s9) hnx
            · obtain ⟨q1, -⟩ := (a2 y).mp hy
              obtain ⟨q2, q3, -⟩ := (s3 y).mp q1
              exact ⟨q2, q3⟩
            · have st := mv_step (g := fun e => e) (B := Bar) id_div (fun r hr => (h.2.2.1 r hr).2.2.2.1) hS a2 (fun y a b d => by
                by_cases c1 : pp y
                · have := hpp y c1 d
                  have := s9 (A 0)
                  unfold kk
                  omega
                · obtain ⟨i, hi, ei⟩ := (s3 y).mpr ⟨a, b, c1⟩
                  rw [← ei]
                  exact hp_min s2.1 i hi) hR
              have keepT : ∀ y, K y ≠ 0 → T' y = T y := fun y hy => (hR.2.1 y (fun z => hy z.2.1)).2.1
              refine ih (tk + 1) c'' _ fd' T' Mn' K' A' _ _ _ (by omega) st (fun y y1 y2 => ?_) (fun y y1 => ?_) (fun v => ?_) (fun v hv2 => ?_) hfd'
              · rcases y1 with y1 | y1
                · rw [keepT y (s5 y y1).2]
                  exact hpp y y1 (fun z => y2 (Or.inl z))
                · exact absurd (Or.inr y1) y2
              · rcases y1 with y1 | y1
                · rw [keepT y (s5 y (s4 y y1)).2]; exact hdn y y1
                · rw [y1, keepT _ m2]; exact hle2
              · by_cases c1 : v = stM Lo Hi (xr (A 0))
                · rw [c1, va_up_self]; omega
                · rw [va_up_ne _ _ c1]; exact hG1 v
              · by_cases c1 : v = stM Lo Hi (xr (A 0))
                · rw [c1, va_up_self]
                  exact ⟨fun _ => Or.inr ⟨A 0, Or.inr rfl, rfl⟩, fun _ => by decide⟩
                · rw [va_up_ne _ _ c1, hG v hv2]
                  constructor
                  · rintro (a | ⟨f, a, b⟩)
                    · exact Or.inl a
                    · exact Or.inr ⟨f, Or.inl a, b⟩
                  · rintro (a | ⟨f, a | a, b⟩)
                    · exact Or.inl a
                    · exact Or.inr ⟨f, a, b⟩
                    · rw [a] at b; exact absurd b.symm c1
        have g1 := hG1 (stM Lo Hi (xr (A 0)))
        rw [nI_clamp (n := stM Lo Hi (xr (A 0))) (by omega)]
        refine ⟨by rw [nI_clamp (by omega)]; exact vp_in_nI hv (by omega), fun hu => go fd ?_, fun hu y hy => ?_⟩
        · rw [← hfd]
          refine cn_congr (fun v hv2 => ?_)
          by_cases c1 : v = stM Lo Hi (xr (A 0))
          · rw [c1, va_up_self]
            have : G (stM Lo Hi (xr (A 0))) ≠ 0 := fun z => hu (by show nI (G (stM Lo Hi (xr (A 0)))) = 0; rw [z]; rfl)
            simp [this]
          · rw [va_up_ne _ _ c1]
        · have hg0 : G (stM Lo Hi (xr (A 0))) = 0 := (nI_eq (a := G (stM Lo Hi (xr (A 0)))) (b := 0) (by omega) (by omega)).mp hu
          have ey : y = nI (fd + 1) := by rw [hy]; exact nI_1 fd
          subst ey
          refine go (fd + 1) ?_
          rw [cn_up (f := fun v => decide (G v ≠ 0)) (v := stM Lo Hi (xr (A 0))) (by simp [hg0]) (by simp only [va_up_self]; decide) (fun v hv2 => by simp only [va_up_ne _ _ hv2]) hv, hfd]
      · rcases y1 with y1 | y1
        · exact hpp y y1 y2
        · rw [y1]; omega
/-- what is known when within() of the reference has ended -/
def WM (k s : Nat) (Lo Hi cC cZ : Nat → Nat) (B : Nat → Nat → Nat → Prop) (D : Nat → Nat) (dn : Nat → Prop) (L : Nat) : Prop :=
  DInv s (fun e => stM Lo Hi e) (fun e => stM Lo Hi (xr e)) (fun w => w < 2 * k ∧ cZ (w / 2) = 0) (fun w => cC (w / 2) * 4096 + 1) B D dn L ∧ ∀ e, dn e → D e < L
theorem mwithin_s {N n k q : Nat} {Lo Hi cC cZ Bm T Mn K A : Nat → Nat} {Cs : Nat → Nat → Int32} {Bar : Nat → Nat → Nat → Prop} {vHN x1 : Int32} {x2 : Int64} {vF vX : Nat → Int32} {post : Int32 → Int32 → (Nat → Int64) → (Nat → Int32) → (Nat → Int32) → (Nat → Int32) → (Nat → Int32) → (Nat → Int32) → Prop} (h : MT n k Lo Hi cC cZ Cs) (hB : BT n q Bm Bar) (hN : 4001 < N) (hT : ∀ j, T j < 2 ^ 63) (hM : ∀ j, Mn j < 4096) (hK1 : ∀ w, K w ≤ 1)
    (hbad : ¬ isN n x1 → post (-14) vHN (aL T) (aI Mn) (aI K) vF vX (aI A)) (hneg : ∀ a, a < n → x1 = nI a → x2 < 0 → post 0 vHN (aL T) (aI Mn) (aI K) vF vX (aI A))
    (hgo : ∀ a mo, a < n → x1 = nI a → mo < 2 ^ 63 → x2 = lN mo → ∀ (fd : Nat) (T' Mn' K' A' : Nat → Nat) (vF' vX' : Nat → Int32) (G : Nat → Nat) (dn : Nat → Prop) (D : Nat → Nat), (∀ j, T' j < 2 ^ 63) → (∀ j, Mn' j < 4096) → (∀ w, K' w ≤ 1) → WM k a Lo Hi cC cZ Bar D dn ((mo + 1) * 4096) → (∀ v, v < n → (G v ≠ 0 ↔ (v = a ∨ ∃ f, dn f ∧ stM Lo Hi (xr f) = v))) → cn (fun v => decide (G v ≠ 0)) n = fd → post (nI fd) 0 (aL T') (aI Mn') (aI K') vF' vX' (aI A')) :
    w_X5_within N (nI n) (nI k) (nI q) vHN (aI Lo) (aI Hi) (aI cC) (aI cZ) (aI Bm) (aL T) (aI Mn) (aI K) vF vX (aI A) x1 x2 post := by
  obtain ⟨n1, n2, n3⟩ := h.1
  unfold w_X5_within
  refine isNode_s (by omega) (fun a ha ea => ⟨fun _ => ?_, fun z => absurd z (by decide)⟩) (fun hz => ⟨fun z => absurd rfl z, fun _ => hbad hz⟩)
  rw [lg_cmp_ge]
  refine ⟨fun hge => ?_, fun hlt => hneg a ha ea (Int64.not_le.mp hlt)⟩
  obtain ⟨mo, hmo, em⟩ := pk_lOf (x := x2) (Int64.not_lt.mpr hge)
  subst ea em
  rw [nI_clamp (n := n) (by omega)]
  refine ⟨⟨nI_pos (by omega), n2⟩, vp_in_nI ha (by omega), mbegin_s h (by omega) hK1 (fun K' vF' vX' kk1 kk0 hch => ⟨vp_in_nI (by omega) (by omega), fun x6 e6 => ?_⟩)⟩
  rw [nI_clamp (by omega)] at e6 ⊢
  have hnx := hch.1 a ha
  rw [← e6] at hnx
  have eG : upd (fun _ => 0) a (vp_nar .boolean (1 : Int32)) = aI (va_up (fun _ => 0) a 1) := aI_updZ (fun _ => 0) a 1 (by omega)
  rw [eG, show (1 : Int32) = nI 1 from rfl]
  have ri := RI.start (k := k) (Lo := Lo) (Hi := Hi) (cC := cC) (cZ := cZ) (g := fun e => e) (v := a) (K0 := K') (T0 := T) (M0 := Mn) (A0 := A) (c0 := 0) (P := fun _ => True) (t0 := 0) (m0 := 0) (tk := 0) ⟨fun i _ z => by omega, fun i j z => by omega⟩ (cn_zero (fun i hi => by simp [kk0 i hi])) hT hM
  refine iniW_l (A0 := A) h (by omega) hch kk0 (fun T1 M1 K1 A1 c1 hR => mwithin_l h hB hN hch hmo (fun T2 M2 K2 A2 G dn pp M tk fd hS z1 z2 z3 z4 => ?_) N 0 c1 0 1 T1 M1 K1 A1 (va_up (fun _ => 0) a 1) _ _ (by omega) (mv_start id_div (fun r hr => (h.2.2.1 r hr).2.2.2.1) kk0 kk1 hR) (fun y z => z.elim) (fun y z => z.elim) (fun v => ?_) (fun v hv => ?_) ?_) N 0 0 x6 T Mn K' A (by omega) (by omega) ri hnx
  · obtain ⟨s1, s2, s3, s4, s5, s6, s7, s8, s9, s10⟩ := hS
    have dv : ∀ e, e < 2 * k → K2 e ≠ 0 → DM k K2 T2 M2 e = kk T2 M2 e := fun e a b => if_pos ⟨a, b⟩
    have lt : ∀ e, dn e → DM k K2 T2 M2 e < (mo + 1) * 4096 := fun e he => by
      obtain ⟨p1, p2⟩ := s5 e (s4 e he)
      rw [dv e p1 p2]
      have := z2 e he
      have := s9 e
      unfold kk
      omega
    refine hgo a mo ha rfl hmo rfl fd T2 M2 K2 A2 vF' vX' G dn (DM k K2 T2 M2) s8 s9 s10 ⟨s1.raise (fun e he => Nat.le_of_lt (lt e he)) (fun e he hd => ?_), lt⟩ z3 z4
    have q : e < 2 * k ∧ K2 e ≠ 0 := by
      by_cases q : e < 2 * k ∧ K2 e ≠ 0
      · exact q
      · exact absurd (if_neg q) he
    rw [dv e q.1 q.2]
    have hppe : pp e := by
      by_cases c1 : pp e
      · exact c1
      · obtain ⟨i, hi, _⟩ := (s3 e).mpr ⟨q.1, q.2, c1⟩
        omega
    have := z1 e hppe hd
    unfold kk
    omega
  · by_cases c1 : v = a
    · rw [c1, va_up_self]; omega
    · rw [va_up_ne _ _ c1]; omega
  · by_cases c1 : v = a
    · rw [c1, va_up_self]; exact ⟨fun _ => Or.inl rfl, fun _ => by decide⟩
    · rw [va_up_ne _ _ c1]
      exact ⟨fun z => absurd rfl z, fun z => z.elim (fun y => absurd y c1) (fun ⟨f, y, _⟩ => y.elim)⟩
  · have e0 : cn (fun _ => false) n = 0 := cn_zero (fun _ _ => rfl)
    rw [cn_up (f := fun _ => false) (v := a) rfl (by simp only [va_up_self]; decide) (fun v hv => by simp only [va_up_ne _ _ hv]; decide) ha, e0]
