/-! heaps: what the loops keep -/
def UpI (κ A0 : Nat → Nat) (c e : Nat) (B : Nat → Nat) (p : Nat) : Prop := hUp κ B (c + 1) p e ∧ hInj (va_up B p e) (c + 1) ∧ ∀ y, hIn (va_up B p e) (c + 1) y ↔ (hIn A0 c y ∨ y = e)
theorem UpI.start {κ A0 : Nat → Nat} {c e : Nat} (h : hp κ A0 c) (hi : hInj A0 c) (hn : ¬ hIn A0 c e) : UpI κ A0 c e A0 c := ⟨hUp_start h, hAdd_inj hi hn, fun _ => hAdd_in⟩
theorem UpI.step {κ A0 B : Nat → Nat} {c e p : Nat} (h : UpI κ A0 c e B p) (h0 : 0 < p) (hlt : κ e < κ (B ((p - 1) / 2))) : UpI κ A0 c e (va_up B p (B ((p - 1) / 2))) ((p - 1) / 2) := by
  have hp := h.1.1
  exact ⟨hUp_step h.1 h0 hlt, hSwap_inj hp (by omega) (by omega) h.2.1, fun y => by rw [hSwap_in hp (by omega) (by omega)]; exact h.2.2 y⟩
def HpOk (κ A : Nat → Nat) (n : Nat) : Prop := hp κ A n ∧ hInj A n
theorem UpI.fin {κ A0 B : Nat → Nat} {c e p : Nat} (h : UpI κ A0 c e B p) (he : p = 0 ∨ κ (B ((p - 1) / 2)) ≤ κ e) : HpOk κ (va_up B p e) (c + 1) ∧ ∀ y, hIn (va_up B p e) (c + 1) y ↔ (hIn A0 c y ∨ y = e) := ⟨⟨hUp_end h.1 he, h.2.1⟩, h.2.2⟩
theorem UpI.mem {κ A0 B : Nat → Nat} {c e p i : Nat} (h : UpI κ A0 c e B p) (hi : i < c + 1) (hne : i ≠ p) : hIn A0 c (B i) ∨ B i = e := (h.2.2 (B i)).mp ⟨i, hi, by rw [va_up_ne _ _ hne]⟩
def DnI (κ A0 : Nat → Nat) (c : Nat) (B : Nat → Nat) (p : Nat) : Prop := hDn κ B c p (A0 c) ∧ (p < c ∨ c = 0) ∧ p ≤ c ∧ hInj (va_up B p (A0 c)) c ∧ ∀ y, hIn (va_up B p (A0 c)) c y ↔ (hIn A0 (c + 1) y ∧ y ≠ A0 0)
theorem DnI.start {κ A0 : Nat → Nat} {c : Nat} (h : HpOk κ A0 (c + 1)) : DnI κ A0 c A0 0 := ⟨hDn_start h.1, by omega, by omega, hTake_inj h.2, fun _ => hTake_in h.2⟩
theorem DnI.step {κ A0 B : Nat → Nat} {c p t : Nat} (h : DnI κ A0 c B p) (h0 : 0 < t) (ht : t < c) (hp : (t - 1) / 2 = p) (hmin : ∀ i, 0 < i → i < c → (i - 1) / 2 = p → κ (B t) ≤ κ (B i)) (hlt : κ (B t) < κ (A0 c)) : DnI κ A0 c (va_up B p (B t)) t := by
  obtain ⟨d1, d2, d3, d4, d5⟩ := h
  exact ⟨hDn_step d1 h0 ht hp hmin hlt, by omega, by omega, hSwap_inj (by omega) ht (by omega) d4, fun y => by rw [hSwap_in (by omega) ht (by omega)]; exact d5 y⟩
theorem DnI.fin {κ A0 B : Nat → Nat} {c p : Nat} (h : DnI κ A0 c B p) (he : ∀ i, 0 < i → i < c → (i - 1) / 2 = p → κ (A0 c) ≤ κ (B i)) : HpOk κ (va_up B p (A0 c)) c ∧ ∀ y, hIn (va_up B p (A0 c)) c y ↔ (hIn A0 (c + 1) y ∧ y ≠ A0 0) := ⟨⟨hDn_end h.1 he, h.2.2.2.1⟩, h.2.2.2.2⟩
theorem DnI.mem {κ A0 B : Nat → Nat} {c p i : Nat} (h : DnI κ A0 c B p) (hi : i < c) (hne : i ≠ p) : hIn A0 (c + 1) (B i) := ((h.2.2.2.2 (B i)).mp ⟨i, hi, by rw [va_up_ne _ _ hne]⟩).1
theorem hp_congr {κ κ' A : Nat → Nat} {n : Nat} (h : hp κ A n) (e : ∀ i, i < n → κ' (A i) = κ (A i)) : hp κ' A n := fun i a b => by
  rw [e i b, e _ (by omega)]
  exact h i a b
/-! the class's heap -/
theorem hadd_l {N c e : Nat} {W A0 : Nat → Nat} {post : Int32 → (Nat → Int32) → Prop} (hc : c < 4000) (hA : ∀ i, i < c → A0 i < 4000) (he : e < 4000) (hW : ∀ j, W j < 2 ^ 63) (hp : ∀ A', HpOk W A' (c + 1) → (∀ y, hIn A' (c + 1) y ↔ (hIn A0 c y ∨ y = e)) → post (nI (c + 1)) (aI A')) : ∀ (t p : Nat) (B : Nat → Nat), p < t → UpI W A0 c e B p → w_X0_add_b28 N (aL W) (nI e) post t (nI (c + 1)) (aI B) (nI p) := by
  intro t
  induction t with
  | zero => intro p B h; omega
  | succ t ih =>
    intro p B ht hI
    have hpc := hI.1.1
    show w_X0_add_b28_B N (aL W) (nI e) post _ (nI (c + 1)) (aI B) (nI p)
    unfold w_X0_add_b28_B
    rw [nI_clamp (by omega)]
    have fin : (p = 0 ∨ W (B ((p - 1) / 2)) ≤ W e) → vp_in (nI p) 4000 ∧ post (nI (c + 1)) (upd (aI B) p (nI e)) := fun hq => by
      obtain ⟨q1, q2⟩ := hI.fin hq
      rw [aI_upd]
      exact ⟨vp_in_nI (by omega) (by omega), hp _ q1 q2⟩
    refine pk_le p 0 (fun h => fin (by omega)) (fun h => ?_)
    intro x3 hx3
    have ex : x3 = nI ((p - 1) / 2) := by
      rw [hx3, show nI p - (1 : Int32) = nI (p - 1) from pk_sub (a := p) (b := 1) (by omega), show (2 : Int32) = nI 2 from rfl, pk_div (by omega) (by omega) (by omega)]
    subst ex
    have hb : B ((p - 1) / 2) < 4000 := by
      rcases hI.mem (i := (p - 1) / 2) (by omega) (by omega) with ⟨i, hi, q⟩ | q
      · rw [← q]; exact hA i hi
      · rw [q]; exact he
    rw [nI_clamp (by omega), nI_clamp (by omega), show aI B ((p - 1) / 2) = nI (B ((p - 1) / 2)) from rfl, nI_clamp (by omega), lg_cmp_gt, show aL W e = lN (W e) from rfl, show aL W (B ((p - 1) / 2)) = lN (W (B ((p - 1) / 2))) from rfl, pk_lLT (hW _) (hW _)]
    refine ⟨vp_in_nI (by omega) (by omega), vp_in_nI hb (by omega), vp_in_nI he (by omega), fun hlt => ⟨vp_in_nI (by omega) (by omega), ?_⟩, fun hlt => fin (by omega)⟩
    rw [aI_upd]
    exact ih ((p - 1) / 2) _ (by omega) (hI.step h hlt)
theorem hadd_s {N c e : Nat} {W A0 : Nat → Nat} {post : Int32 → (Nat → Int32) → Prop} (hN : 4000 < N) (hc : c < 4000) (hA : ∀ i, i < c → A0 i < 4000) (he : e < 4000) (hW : ∀ j, W j < 2 ^ 63) (h : HpOk W A0 c) (hn : ¬ hIn A0 c e) (hp : ∀ A', HpOk W A' (c + 1) → (∀ y, hIn A' (c + 1) y ↔ (hIn A0 c y ∨ y = e)) → post (nI (c + 1)) (aI A')) : w_X0_add N (nI c) (aL W) (aI A0) (nI e) post := by
  unfold w_X0_add
  refine pk_lt c 4000 (fun _ => ?_) (fun z => by omega)
  rw [show nI c + (1 : Int32) = nI (c + 1) from nI_1 c]
  exact hadd_l hc hA he hW hp N c A0 (by omega) (UpI.start h.1 h.2 hn)
theorem htake_l {N c : Nat} {W A0 : Nat → Nat} {post : Int32 → Int32 → (Nat → Int32) → Prop} (hc : c < 4000) (hA : ∀ i, i < c + 1 → A0 i < 4000) (hW : ∀ j, W j < 2 ^ 63) (hp : ∀ A', HpOk W A' c → (∀ y, hIn A' c y ↔ (hIn A0 (c + 1) y ∧ y ≠ A0 0)) → post (nI (A0 0)) (nI c) (aI A')) : ∀ (t p : Nat) (B : Nat → Nat), 4000 ≤ t + p → DnI W A0 c B p → w_X0_take_b41 N (aL W) post t (nI c) (aI B) (nI (A0 0)) (nI (A0 c)) (nI p) (nI (2 * p + 1)) := by
  intro t
  induction t with
  | zero => intro p B h hI; have := hI.2.2.1; omega
  | succ t ih =>
    intro p B ht hI
    have hpc := hI.2.2.1
    have hac := hA c (by omega)
    show w_X0_take_b41_B N (aL W) post _ (nI c) (aI B) (nI (A0 0)) (nI (A0 c)) (nI p) (nI (2 * p + 1))
    unfold w_X0_take_b41_B
    have fin : (∀ i, 0 < i → i < c → (i - 1) / 2 = p → W (A0 c) ≤ W (B i)) → w_X0_take_b145 N post (nI c) (aI B) (nI (A0 0)) (nI (A0 c)) (nI p) := fun hq => by
      obtain ⟨q1, q2⟩ := hI.fin hq
      unfold w_X0_take_b145
      rw [nI_clamp (by omega), aI_upd]
      exact ⟨vp_in_nI (by omega) (by omega), hp _ q1 q2⟩
    have hbm : ∀ i, i < c → i ≠ p → B i < 4000 := fun i hi hne => by
      obtain ⟨j, hj, q⟩ := hI.mem hi hne
      rw [← q]; exact hA j hj
    have tail : ∀ u, 0 < u → u < c → (u - 1) / 2 = p → (∀ i, 0 < i → i < c → (i - 1) / 2 = p → W (B u) ≤ W (B i)) → w_X0_take_b94 N (aL W) post (w_X0_take_b41 N (aL W) post t) (nI c) (aI B) (nI (A0 0)) (nI (A0 c)) (nI p) (nI u) := by
      intro u h0 hu hup hmin
      have hbu := hbm u hu (by omega)
      unfold w_X0_take_b94
      rw [nI_clamp (by omega), nI_clamp (by omega), nI_clamp (by omega), show aI B u = nI (B u) from rfl, nI_clamp (by omega), lg_cmp_lt, show aL W (B u) = lN (W (B u)) from rfl, show aL W (A0 c) = lN (W (A0 c)) from rfl, pk_lLT (hW _) (hW _)]
      refine ⟨vp_in_nI (by omega) (by omega), vp_in_nI hbu (by omega), vp_in_nI hac (by omega), fun hlt => ⟨vp_in_nI (by omega) (by omega), fun y hy => ?_⟩, fun hlt => fin (fun i a b d => Nat.le_trans (Nat.le_of_not_lt hlt) (hmin i a b d))⟩
      have ey : y = nI (2 * u + 1) := by rw [hy, show (2 : Int32) = nI 2 from rfl, pk_mul]; exact nI_1 _
      subst ey
      rw [aI_upd]
      exact ih u _ (by omega) (hI.step h0 hu hup hmin hlt)
    refine pk_le c (2 * p + 1) (fun h => fin (fun i a b d => by omega)) (fun h => ?_)
    rw [show nI (2 * p + 1) + (1 : Int32) = nI (2 * p + 1 + 1) from nI_1 _]
    refine pk_le c (2 * p + 1 + 1) (fun h2 => tail (2 * p + 1) (by omega) h (by omega) (fun i a b d => ?_)) (fun h2 => ?_)
    · have : i = 2 * p + 1 := by omega
      rw [this]; exact Nat.le_refl _
    · have b1 := hbm (2 * p + 1) h (by omega)
      have b2 := hbm (2 * p + 1 + 1) h2 (by omega)
      rw [nI_clamp (by omega), nI_clamp (by omega), show aI B (2 * p + 1 + 1) = nI (B (2 * p + 1 + 1)) from rfl, show aI B (2 * p + 1) = nI (B (2 * p + 1)) from rfl, nI_clamp (by omega), nI_clamp (by omega), lg_cmp_ge, show aL W (B (2 * p + 1 + 1)) = lN (W (B (2 * p + 1 + 1))) from rfl, show aL W (B (2 * p + 1)) = lN (W (B (2 * p + 1))) from rfl, pk_lLE (hW _) (hW _)]
      refine ⟨vp_in_nI (by omega) (by omega), vp_in_nI b2 (by omega), vp_in_nI (by omega) (by omega), vp_in_nI b1 (by omega), fun hle => tail (2 * p + 1) (by omega) h (by omega) (fun i a b d => ?_), fun hle y hy => ?_⟩
      · rcases (show i = 2 * p + 1 ∨ i = 2 * p + 1 + 1 by omega) with q | q
        · rw [q]; exact Nat.le_refl _
        · rw [q]; exact hle
      · subst hy
        refine tail (2 * p + 1 + 1) (by omega) h2 (by omega) (fun i a b d => ?_)
        rcases (show i = 2 * p + 1 ∨ i = 2 * p + 1 + 1 by omega) with q | q
        · rw [q]; omega
        · rw [q]; exact Nat.le_refl _
theorem htake_s {N c : Nat} {W A0 : Nat → Nat} {post : Int32 → Int32 → (Nat → Int32) → Prop} (hN : 4000 < N) (hc : c < 4000) (hA : ∀ i, i < c + 1 → A0 i < 4000) (hW : ∀ j, W j < 2 ^ 63) (h : HpOk W A0 (c + 1)) (hp : ∀ A', HpOk W A' c → (∀ y, hIn A' c y ↔ (hIn A0 (c + 1) y ∧ y ≠ A0 0)) → post (nI (A0 0)) (nI c) (aI A')) : w_X0_take N (nI (c + 1)) (aL W) (aI A0) post := by
  unfold w_X0_take
  refine pk_lt 0 (c + 1) (fun _ => ⟨vp_in_nI (n := 0) (by omega) (by omega), fun x1 e1 => ?_⟩) (fun z => by omega)
  rw [show nI (c + 1) - (1 : Int32) = nI c from nI_pred c, nI_clamp (by omega)]
  refine ⟨vp_in_nI (by omega) (by omega), fun x2 e2 => ?_⟩
  have q1 : x1 = nI (A0 0) := e1
  have q2 : x2 = nI (A0 c) := e2
  subst q1 q2
  exact htake_l hc hA hW hp N 0 A0 (by omega) (DnI.start h)
theorem htake_0 {N : Nat} {vW : Nat → Int64} {vA : Nat → Int32} {post : Int32 → Int32 → (Nat → Int32) → Prop} (hp : post (-1) 0 vA) : w_X0_take N (nI 0) vW vA post := by
  unfold w_X0_take
  exact ⟨fun z => absurd z (by decide), fun _ => hp⟩
/-! the reference's heap -/
def kk (T Mn : Nat → Nat) (j : Nat) : Nat := T j * 4096 + Mn j
theorem isLess_s {N a b : Nat} {T Mn : Nat → Nat} {post : Int32 → Prop} (ha : a < 4000) (hb : b < 4000) (hT : ∀ j, T j < 2 ^ 63) (hM : ∀ j, Mn j < 4096) (h1 : kk T Mn a < kk T Mn b → post 1) (h0 : ¬ kk T Mn a < kk T Mn b → post 0) : w_X5_isLess N (aL T) (aI Mn) (nI a) (nI b) post := by
  unfold w_X5_isLess
  have ma := hM a
  have mb := hM b
  rw [nI_clamp (by omega), nI_clamp (by omega), lg_cmp_eq, lg_cmp_ge, show aL T a = lN (T a) from rfl, show aL T b = lN (T b) from rfl, show aI Mn a = nI (Mn a) from rfl, show aI Mn b = nI (Mn b) from rfl, pk_lLE (hT _) (hT _), pk_lEQ (hT _) (hT _), nI_leI (by omega) (by omega)]
  unfold kk at h1 h0
  exact ⟨vp_in_nI ha (by omega), vp_in_nI hb (by omega), fun e => ⟨fun z => h0 (by omega), fun z => h1 (by omega)⟩, fun e => ⟨fun z => h0 (by omega), fun z => h1 (by omega)⟩⟩
theorem known_l {N c e : Nat} {T Mn A0 : Nat → Nat} {vK : Nat → Int32} {post : Int32 → (Nat → Int64) → (Nat → Int32) → (Nat → Int32) → (Nat → Int32) → Prop} (hc : c < 4000) (hA : ∀ i, i < c → A0 i < 4000) (he : e < 4000) (hT : ∀ j, T j < 2 ^ 63) (hM : ∀ j, Mn j < 4096) (hp : ∀ A', HpOk (kk T Mn) A' (c + 1) → (∀ y, hIn A' (c + 1) y ↔ (hIn A0 c y ∨ y = e)) → post (nI (c + 1)) (aL T) (aI Mn) vK (aI A')) : ∀ (t p : Nat) (B : Nat → Nat), p < t → UpI (kk T Mn) A0 c e B p → w_X5_known_b50 N (nI e) post t (nI (c + 1)) (aL T) (aI Mn) vK (aI B) (nI p) := by
  intro t
  induction t with
  | zero => intro p B h; omega
  | succ t ih =>
    intro p B ht hI
    have hpc := hI.1.1
    show w_X5_known_b50_B N (nI e) post _ (nI (c + 1)) (aL T) (aI Mn) vK (aI B) (nI p)
    unfold w_X5_known_b50_B
    rw [nI_clamp (by omega)]
    have fin : (p = 0 ∨ kk T Mn (B ((p - 1) / 2)) ≤ kk T Mn e) → vp_in (nI p) 4000 ∧ post (nI (c + 1)) (aL T) (aI Mn) vK (upd (aI B) p (nI e)) := fun hq => by
      obtain ⟨q1, q2⟩ := hI.fin hq
      rw [aI_upd]
      exact ⟨vp_in_nI (by omega) (by omega), hp _ q1 q2⟩
    refine pk_le p 0 (fun h => fin (by omega)) (fun h => ?_)
    have ex : (nI p - (1 : Int32)) / (2 : Int32) = nI ((p - 1) / 2) := by
      rw [show nI p - (1 : Int32) = nI (p - 1) from pk_sub (a := p) (b := 1) (by omega), show (2 : Int32) = nI 2 from rfl, pk_div (by omega) (by omega) (by omega)]
    rw [ex, nI_clamp (by omega)]
    have hb : B ((p - 1) / 2) < 4000 := by
      rcases hI.mem (i := (p - 1) / 2) (by omega) (by omega) with ⟨i, hi, q⟩ | q
      · rw [← q]; exact hA i hi
      · rw [q]; exact he
    refine ⟨vp_in_nI (by omega) (by omega), isLess_s he hb hT hM (fun hlt => ⟨fun z => absurd z (by decide), fun _ => ⟨vp_in_nI (by omega) (by omega), fun y hy => ?_⟩⟩) (fun hlt => ⟨fun _ => fin (by omega), fun z => absurd rfl z⟩)⟩
    subst hy
    rw [show aI B ((p - 1) / 2) = nI (B ((p - 1) / 2)) from rfl, aI_upd]
    exact ih ((p - 1) / 2) _ (by omega) (hI.step h hlt)
theorem known_s {N c e k rest rb : Nat} {cC T Mn K A0 : Nat → Nat} {post : Int32 → (Nat → Int64) → (Nat → Int32) → (Nat → Int32) → (Nat → Int32) → Prop} (hN : 4000 < N) (hk : k ≤ 2000) (hc : c < 4000) (hA : ∀ i, i < c → A0 i < 4000) (he : e < 2 * k) (hcC : cC (e / 2) ≤ 1000000000) (hrest : rest < 2 ^ 62) (hrb : rb < 4095) (hT : ∀ j, T j < 2 ^ 63) (hM : ∀ j, Mn j < 4096) (h : HpOk (kk T Mn) A0 c) (hn : ¬ hIn A0 c e)
    (hp : ∀ A', HpOk (kk (va_up T e (cC (e / 2) + rest)) (va_up Mn e (rb + 1))) A' (c + 1) → (∀ y, hIn A' (c + 1) y ↔ (hIn A0 c y ∨ y = e)) → post (nI (c + 1)) (aL (va_up T e (cC (e / 2) + rest))) (aI (va_up Mn e (rb + 1))) (aI (va_up K e 1)) (aI A')) : w_X5_known N (nI c) (aI cC) (aL T) (aI Mn) (aI K) (aI A0) (nI e) (lN rest) (nI rb) post := by
  unfold w_X5_known
  rw [show nI e / (2 : Int32) = nI (e / 2) from pk_div (d := 2) (by omega) (by omega) (by omega), nI_clamp (by omega), nI_clamp (by omega), show aI cC (e / 2) = nI (cC (e / 2)) from rfl, nI_l (by omega), lN_add, aL_upd, show nI rb + (1 : Int32) = nI (rb + 1) from nI_1 rb, aI_upd, show (1 : Int32) = nI 1 from rfl, aI_updZ K e 1 (by omega), show nI c + nI 1 = nI (c + 1) from nI_1 c]
  refine ⟨vp_in_nI (by omega) (by omega), vp_in_nI (by omega) (by omega), ?_⟩
  refine known_l hc hA (by omega) (fun j => ?_) (fun j => ?_) hp N c A0 (by omega) (UpI.start (hp_congr h.1 (fun i hi => ?_)) h.2 hn)
  · by_cases q : j = e
    · rw [q, va_up_self]; omega
    · rw [va_up_ne _ _ q]; exact hT j
  · by_cases q : j = e
    · rw [q, va_up_self]; omega
    · rw [va_up_ne _ _ q]; exact hM j
  · have q : A0 i ≠ e := fun z => hn ⟨i, hi, z⟩
    unfold kk
    rw [va_up_ne _ _ q, va_up_ne _ _ q]
theorem pull_l {N c : Nat} {T Mn A0 : Nat → Nat} {post : Int32 → Int32 → (Nat → Int32) → Prop} (hc : c < 4000) (hA : ∀ i, i < c + 1 → A0 i < 4000) (hT : ∀ j, T j < 2 ^ 63) (hM : ∀ j, Mn j < 4096) (hp : ∀ A', HpOk (kk T Mn) A' c → (∀ y, hIn A' c y ↔ (hIn A0 (c + 1) y ∧ y ≠ A0 0)) → post (nI (A0 0)) (nI c) (aI A')) : ∀ (t p m : Nat) (B : Nat → Nat), 4001 ≤ t + p → DnI (kk T Mn) A0 c B p → ((m = 0 ∧ ∀ i, 0 < i → i < c → (i - 1) / 2 = p → kk T Mn (A0 c) ≤ kk T Mn (B i)) ∨ (m = 1 ∧ 2 * p + 1 < c)) → w_X5_pull_b44 N (aL T) (aI Mn) post t (nI c) (aI B) (nI (A0 0)) (nI (A0 c)) (nI p) (nI m) := by
  intro t
  induction t with
  | zero => intro p m B h hI; have := hI.2.2.1; omega
  | succ t ih =>
    intro p m B ht hI hm
    have hpc := hI.2.2.1
    have hac := hA c (by omega)
    show w_X5_pull_b44_B N (aL T) (aI Mn) post _ (nI c) (aI B) (nI (A0 0)) (nI (A0 c)) (nI p) (nI m)
    unfold w_X5_pull_b44_B
    have fin : (∀ i, 0 < i → i < c → (i - 1) / 2 = p → kk T Mn (A0 c) ≤ kk T Mn (B i)) → vp_in (nI p) 4000 ∧ post (nI (A0 0)) (nI c) (upd (aI B) (nI p).toNatClampNeg (nI (A0 c))) := fun hq => by
      obtain ⟨q1, q2⟩ := hI.fin hq
      rw [nI_clamp (by omega), aI_upd]
      exact ⟨vp_in_nI (by omega) (by omega), hp _ q1 q2⟩
    have hbm : ∀ i, i < c → i ≠ p → B i < 4000 := fun i hi hne => by
      obtain ⟨j, hj, q⟩ := hI.mem hi hne
      rw [← q]; exact hA j hj
    rcases hm with ⟨rfl, hm⟩ | ⟨rfl, hm⟩
    · exact ⟨fun _ => fin hm, fun z => absurd rfl z⟩
    · refine ⟨fun z => absurd z (by decide), fun _ x5 e5 => ?_⟩
      have e5' : x5 = nI (2 * p + 1) := by rw [e5, show (2 : Int32) = nI 2 from rfl, pk_mul]; exact nI_1 _
      subst e5'
      have tail : ∀ u, 0 < u → u < c → (u - 1) / 2 = p → (∀ i, 0 < i → i < c → (i - 1) / 2 = p → kk T Mn (B u) ≤ kk T Mn (B i)) → w_X5_pull_b93 N (aL T) (aI Mn) post (w_X5_pull_b44 N (aL T) (aI Mn) post t) (nI c) (aI B) (nI (A0 0)) (nI (A0 c)) (nI p) (nI u) := by
        intro u h0 hu hup hmin
        have hbu := hbm u hu (by omega)
        unfold w_X5_pull_b93
        rw [nI_clamp (by omega), nI_clamp (by omega), show aI B u = nI (B u) from rfl]
        refine ⟨vp_in_nI (by omega) (by omega), isLess_s hbu hac hT hM (fun hlt => ⟨fun _ => ⟨vp_in_nI (by omega) (by omega), ?_⟩, fun z => absurd z (by decide)⟩) (fun hlt => ⟨fun z => absurd rfl z, fun _ => ?_⟩)⟩
        · rw [show (2 : Int32) * nI u + (1 : Int32) = nI (2 * u + 1) by rw [show (2 : Int32) = nI 2 from rfl, pk_mul]; exact nI_1 _, aI_upd]
          refine pk_le c (2 * u + 1) (fun h => ih u 0 _ (by omega) (hI.step h0 hu hup hmin hlt) (Or.inl ⟨rfl, fun i a b d => by omega⟩)) (fun h => ih u 1 _ (by omega) (hI.step h0 hu hup hmin hlt) (Or.inr ⟨rfl, h⟩))
        · have hq : ∀ i, 0 < i → i < c → (i - 1) / 2 = p → kk T Mn (A0 c) ≤ kk T Mn (B i) := fun i a b d => Nat.le_trans (Nat.le_of_not_lt hlt) (hmin i a b d)
          cases t with
          | zero => omega
          | succ t =>
            show w_X5_pull_b44_B N (aL T) (aI Mn) post _ (nI c) (aI B) (nI (A0 0)) (nI (A0 c)) (nI p) 0
            unfold w_X5_pull_b44_B
            exact ⟨fun _ => fin hq, fun z => absurd rfl z⟩
      rw [show nI (2 * p + 1) + (1 : Int32) = nI (2 * p + 1 + 1) from nI_1 _]
      refine pk_le c (2 * p + 1 + 1) (fun h2 => tail (2 * p + 1) (by omega) hm (by omega) (fun i a b d => ?_)) (fun h2 => ?_)
      · have : i = 2 * p + 1 := by omega
        rw [this]; exact Nat.le_refl _
      · have b1 := hbm (2 * p + 1) hm (by omega)
        have b2 := hbm (2 * p + 1 + 1) h2 (by omega)
        rw [nI_clamp (by omega), nI_clamp (by omega), show aI B (2 * p + 1 + 1) = nI (B (2 * p + 1 + 1)) from rfl, show aI B (2 * p + 1) = nI (B (2 * p + 1)) from rfl]
        refine ⟨vp_in_nI (by omega) (by omega), vp_in_nI (by omega) (by omega), isLess_s b2 b1 hT hM (fun hlt => ⟨fun z => absurd z (by decide), fun _ y hy => ?_⟩) (fun hlt => ⟨fun _ => tail (2 * p + 1) (by omega) hm (by omega) (fun i a b d => ?_), fun z => absurd rfl z⟩)⟩
        · subst hy
          refine tail (2 * p + 1 + 1) (by omega) h2 (by omega) (fun i a b d => ?_)
          rcases (show i = 2 * p + 1 ∨ i = 2 * p + 1 + 1 by omega) with q | q
          · rw [q]; omega
          · rw [q]; exact Nat.le_refl _
        · rcases (show i = 2 * p + 1 ∨ i = 2 * p + 1 + 1 by omega) with q | q
          · rw [q]; exact Nat.le_refl _
          · rw [q]; omega
theorem pull_s {N c : Nat} {T Mn A0 : Nat → Nat} {post : Int32 → Int32 → (Nat → Int32) → Prop} (hN : 4001 ≤ N) (hc : c < 4000) (hA : ∀ i, i < c + 1 → A0 i < 4000) (hT : ∀ j, T j < 2 ^ 63) (hM : ∀ j, Mn j < 4096) (h : HpOk (kk T Mn) A0 (c + 1)) (hp : ∀ A', HpOk (kk T Mn) A' c → (∀ y, hIn A' c y ↔ (hIn A0 (c + 1) y ∧ y ≠ A0 0)) → post (nI (A0 0)) (nI c) (aI A')) : w_X5_pull N (nI (c + 1)) (aL T) (aI Mn) (aI A0) post := by
  unfold w_X5_pull
  refine ⟨vp_in_nI (n := 0) (by omega) (by omega), fun x1 e1 => ?_⟩
  rw [show nI (c + 1) - (1 : Int32) = nI c from nI_pred c, nI_clamp (by omega)]
  refine ⟨vp_in_nI (by omega) (by omega), fun x2 e2 => ?_⟩
  have q1 : x1 = nI (A0 0) := e1
  have q2 : x2 = nI (A0 c) := e2
  subst q1 q2
  unfold w_X5_pull_b42
  refine pk_le c 1 (fun h1 => pull_l hc hA hT hM hp N 0 0 A0 (by omega) (DnI.start h) (Or.inl ⟨rfl, fun i a b d => by omega⟩)) (fun h1 => pull_l hc hA hT hM hp N 0 1 A0 (by omega) (DnI.start h) (Or.inr ⟨rfl, by omega⟩))
