/-! spoilSheet -/
theorem stx_iff (h : Nat → Nat) (c : Nat) : ∀ m i, i + m < 2 ^ 31 → (stx h c m i = -4 ↔ ∀ j, i ≤ j → j < i + m → h (12 + j) ≠ c) := by
  intro m
  induction m with
  | zero => intro i _; exact ⟨fun _ j h1 h2 => by omega, fun _ => rfl⟩
  | succ m ih =>
    intro i hi
    by_cases e : h (12 + i) = c
    · have : stx h c (m + 1) i = nI i := by simp [stx, e]
      rw [this]
      exact ⟨fun q => absurd q (nI_m4 (by omega)), fun q => absurd e (q i (by omega) (by omega))⟩
    · have : stx h c (m + 1) i = stx h c m (i + 1) := by simp [stx, e]
      rw [this, ih (i + 1) (by omega)]
      constructor
      · intro q j h1 h2
        by_cases ej : j = i
        · rw [ej]; exact e
        · exact q j (by omega) (by omega)
      · intro q j h1 h2
        exact q j (by omega) (by omega)
theorem sA_iff {h : Nat → Nat} {c : Nat} (h9 : h 111 ≤ 99) : sA h c = -4 ↔ ∀ i, i < h 111 → h (12 + i) ≠ c := by
  unfold sA
  rw [stx_iff h c _ 0 (by omega)]
  exact ⟨fun q i hi => q i (by omega) (by omega), fun q j h1 h2 => q j (by omega)⟩
theorem sA_ad {h : Nat → Nat} {c c0 : Nat} (h9 : h 111 ≤ 98) (hc : c ≠ c0) : sA (adS h c0) c = -4 ↔ sA h c = -4 := by
  rw [sA_iff (by rw [ad_u h9]; omega), sA_iff (by omega), ad_u h9]
  constructor
  · intro q i hi
    have := q i (by omega)
    rw [ad_i h9 hi] at this
    exact this
  · intro q i hi
    by_cases e : i = h 111
    · rw [e, ad_c]; exact fun z => hc z.symm
    · rw [ad_i h9 (by omega)]; exact q i (by omega)
def rc (h : Nat → Nat) (c : Nat → Nat) : Nat → Nat → Nat
  | 0, _ => 0
  | m + 1, q => (if sA h (c q) = -4 then 1 else 0) + rc h c m (q + 1)
theorem rc_le (h c : Nat → Nat) : ∀ m q, rc h c m q ≤ m := by
  intro m
  induction m with
  | zero => intro q; exact Nat.le_refl _
  | succ m ih =>
    intro q
    have := ih (q + 1)
    show (if sA h (c q) = -4 then 1 else 0) + rc h c m (q + 1) ≤ m + 1
    split <;> omega
theorem rc_ad {h c : Nat → Nat} {c0 : Nat} (h9 : h 111 ≤ 98) : ∀ m q, (∀ j, q ≤ j → j < q + m → c j ≠ c0) → rc (adS h c0) c m q = rc h c m q := by
  intro m
  induction m with
  | zero => intro q _; rfl
  | succ m ih =>
    intro q hq
    show (if sA (adS h c0) (c q) = -4 then 1 else 0) + rc (adS h c0) c m (q + 1) = (if sA h (c q) = -4 then 1 else 0) + rc h c m (q + 1)
    rw [ih (q + 1) (fun j h1 h2 => hq j (by omega) (by omega))]
    have := sA_ad (h := h) (c := c q) (c0 := c0) h9 (hq q (by omega) (by omega))
    by_cases e : sA h (c q) = -4
    · rw [if_pos e, if_pos (this.mpr e)]
    · rw [if_neg e, if_neg (fun z => e (this.mp z))]
def cq (g : Nat → Nat) (s p t q : Nat) : Nat := 1000 * s + (Fs g s p + q * g (6 + 6 * s + p) + t)
theorem vq {g : Nat → Nat} (V : VG g) {s p t q : Nat} (hs : s < g 23) (hp : p < g 22) (ht : t < g (6 + 6 * s + p)) (hq : q < g p) : Fs g s p + q * g (6 + 6 * s + p) + t < Fs g s (g 22) := by
  have h1 := Fs_mono g s (p := p + 1) (q := g 22) (by omega)
  have h2 : Fs g s (p + 1) = Fs g s p + g p * g (6 + 6 * s + p) := rfl
  have h3 : (q + 1) * g (6 + 6 * s + p) ≤ g p * g (6 + 6 * s + p) := Nat.mul_le_mul_right _ (by omega)
  rw [Nat.add_mul] at h3
  omega
def KS (σ : Me) (k s p : Nat) (g : Nat → Nat) : Prop := σ k 0 = nI (g p) ∧ σ k 1 = nI (g (6 + 6 * s + p)) ∧ σ k 2 = nI (Fs g s p)
theorem c_numAt {σ : Me} {k s p : Nat} {g : Nat → Nat} (K : KS σ k s p g) (t q : Nat) : f_X4_numberAt σ k (nI t) (nI q) = some (nI (Fs g s p + q * g (6 + 6 * s + p) + t)) := by
  unfold f_X4_numberAt
  rw [K.2.1, K.2.2, pk_mul, nI_add, nI_add]
theorem m_numAt {τ : Me} {g : Nat → Nat} (T : TD τ g) {s p : Nat} (hs : s < 3) (hp : p < 4) (t q : Nat) : f_X8_numberAt τ (nI s) (nI p) (nI t) (nI q) = some (nI (Fs g s p + q * g (6 + 6 * s + p) + t)) := by
  unfold f_X8_numberAt
  rw [m_first T hs (by omega), bs, m_sheets T hs hp, bs, pk_mul, nI_add, nI_add]
section SH
variable {g : Nat → Nat} {s p t k : Nat}
theorem c_open {σ : Me} {h : Nat → Nat} (V : VG g) (hs : s < g 23) (hp : p < g 22) (ht : t < g (6 + 6 * s + p)) (K : KS σ k s p g) (R : SR σ g h) (H : VH g h) : ∀ n q a, q ≤ g p → g p - q < n → f_X7_unspoiledOfSheet_6 n σ (nI s) k (nI t) (nI a) (nI q) = some (nI (a + rc h (cq g s p t) (g p - q) q)) := by
  have h3 := V.1.2.1
  have h4 := V.1.1
  have h8 := V.1.2.2.2.1 p (by omega)
  have u9 := h99 V.1 H
  intro n
  induction n with
  | zero => intro q a h1 h2; omega
  | succ n ih =>
    intro q a h1 h2
    rw [f_X7_unspoiledOfSheet_6, K.1, if_le (by omega) (by omega)]
    by_cases e : q = g p
    · rw [if_pos (by omega), show g p - q = 0 by omega]; rfl
    · have hv := vq V hs hp ht (q := q) (by omega)
      have hM := (V.2 s hs).2
      rw [if_neg (by omega), c_numAt K, bs, c_stands R u9 H.2.2.2 (by omega) (by omega), bs, p1, p1, show g p - q = (g p - (q + 1)) + 1 by omega]
      show _ = some (nI (a + ((if sA h (cq g s p t q) = -4 then 1 else 0) + rc h (cq g s p t) (g p - (q + 1)) (q + 1))))
      by_cases e2 : sA h (cq g s p t q) = -4
      · rw [show sA h (1000 * s + (Fs g s p + q * g (6 + 6 * s + p) + t)) = sA h (cq g s p t q) from rfl, decide_eq_false (fun z => z e2), if_pos bIf, if_pos e2, ih (q + 1) (a + 1) (by omega) (by omega), Nat.add_assoc]
      · rw [show sA h (1000 * s + (Fs g s p + q * g (6 + 6 * s + p) + t)) = sA h (cq g s p t q) from rfl, decide_eq_true e2, if_neg bIt, if_neg e2, ih (q + 1) a (by omega) (by omega), Nat.zero_add]
theorem m_open {τ : Me} {h : Nat → Nat} (V : VG g) (hs : s < g 23) (hp : p < g 22) (ht : t < g (6 + 6 * s + p)) (T : TD τ g) (S : SS τ h) (H : VH g h) : ∀ n q a, q ≤ g p → g p - q < n → f_X8_spoilSheet_42 n τ (nI s) (nI p) (nI t) (nI a) (nI q) = f_X8_spoilSheet_42 1 τ (nI s) (nI p) (nI t) (nI (a + rc h (cq g s p t) (g p - q) q)) (nI (g p)) := by
  have h3 := V.1.2.1
  have h4 := V.1.1
  have h8 := V.1.2.2.2.1 p (by omega)
  have u9 := h99 V.1 H
  intro n
  induction n with
  | zero => intro q a h1 h2; omega
  | succ n ih =>
    intro q a h1 h2
    by_cases e : q = g p
    · rw [show g p - q = 0 by omega, e, show a + rc h (cq g s p t) 0 (g p) = a from rfl]
      rw [f_X8_spoilSheet_42, f_X8_spoilSheet_42, gd_i (by omega) (by decide), nI_clamp (by omega), T _ (by omega)]
      rw [if_pos (show nI (g p) ≤ nI (g p) from nI_le (Nat.le_refl _) (by omega)), gd_i (by omega) (by decide), if_pos (show nI (g p) ≤ nI (g p) from nI_le (Nat.le_refl _) (by omega))]
    · have hv := vq V hs hp ht (q := q) (by omega)
      have hM := (V.2 s hs).2
      rw [f_X8_spoilSheet_42, gd_i (by omega) (by decide), nI_clamp (by omega), T _ (by omega), if_neg (show ¬ (nI (g p) ≤ nI q) from fun z => by have := (nI_leI (by omega) (by omega)).mp z; omega), m_numAt T (by omega) (by omega), bs, m_star S u9 H.2.2.2 (by omega) (by omega), bs, p1, p1, p0, show g p - q = (g p - (q + 1)) + 1 by omega]
      show _ = f_X8_spoilSheet_42 1 τ (nI s) (nI p) (nI t) (nI (a + ((if sA h (cq g s p t q) = -4 then 1 else 0) + rc h (cq g s p t) (g p - (q + 1)) (q + 1)))) (nI (g p))
      by_cases e2 : sA h (cq g s p t q) = -4
      · rw [show sA h (1000 * s + (Fs g s p + q * g (6 + 6 * s + p) + t)) = sA h (cq g s p t q) from rfl, if_pos e2, if_pos e2, ih (q + 1) (a + 1) (by omega) (by omega), Nat.add_assoc]
      · rw [show sA h (1000 * s + (Fs g s p + q * g (6 + 6 * s + p) + t)) = sA h (cq g s p t q) from rfl, if_neg e2, if_neg e2, ih (q + 1) a (by omega) (by omega), Nat.zero_add]
theorem ss2 (V : VG g) (hs : s < g 23) (hp : p < g 22) (ht : t < g (6 + 6 * s + p)) (hk : 9 ≤ k) (o : Nat) : ∀ n q (h : Nat → Nat) (σ τ : Me), KS σ k s p g → TD τ g → SR σ g h → SS τ h → VH g h → q ≤ g p → g p - q < n → h 111 + rc h (cq g s p t) (g p - q) q ≤ g 24 →
    ∃ (σ1 τ1 : Me) (h1 : Nat → Nat), f_X7_spoilSheet_72 n σ (nI s) (nI t) k (nI o) (nI q) = f_X7_spoilSheet_72 1 σ1 (nI s) (nI t) k (nI o) (nI (g p)) ∧ f_X8_spoilSheet_140 n τ (nI s) (nI p) (nI t) (nI o) (nI q) = some (τ1, nI o) ∧ (∀ j, j ≠ 3 → j ≠ 4 → j ≠ 5 → σ1 j = σ j) ∧ (∀ j, j ≠ 4 → τ1 j = τ j) ∧ SR σ1 g h1 ∧ SS τ1 h1 ∧ VH g h1 ∧ h1 111 = h 111 + rc h (cq g s p t) (g p - q) q ∧ (∀ i, i < 12 → h1 i = h i) ∧ ∀ i, i < h 111 → h1 (12 + i) = h (12 + i) := by
  have h3 := V.1.2.1
  have h4 := V.1.1
  have h8 := V.1.2.2.2.1 p (by omega)
  have z9 := V.1.2.2.1
  intro n
  induction n with
  | zero => intro q h σ τ _ _ _ _ _ h1 h2; omega
  | succ n ih =>
    intro q h σ τ K T R S H h1 h2 hz
    have u9 := h99 V.1 H
    by_cases e : q = g p
    · rw [e]
      refine ⟨σ, τ, h, ?_, ?_, fun _ _ _ _ => rfl, fun _ _ => rfl, R, S, H, ?_, fun _ _ => rfl, fun _ _ => rfl⟩
      · rw [f_X7_spoilSheet_72, f_X7_spoilSheet_72, K.1]
        rw [if_pos (show nI (g p) ≤ nI (g p) from nI_le (Nat.le_refl _) (by omega)), if_pos (show nI (g p) ≤ nI (g p) from nI_le (Nat.le_refl _) (by omega))]
      · rw [f_X8_spoilSheet_140, gd_i (by omega) (by decide), nI_clamp (by omega), T _ (by omega), if_pos (show nI (g p) ≤ nI (g p) from nI_le (Nat.le_refl _) (by omega))]
      · rw [show g p - g p = 0 by omega]; rfl
    · have hv := vq V hs hp ht (q := q) (by omega)
      have hM := (V.2 s hs).2
      have hrc : rc h (cq g s p t) (g p - q) q = (if sA h (cq g s p t q) = -4 then 1 else 0) + rc h (cq g s p t) (g p - (q + 1)) (q + 1) := by
        rw [show g p - q = (g p - (q + 1)) + 1 by omega]; rfl
      rw [hrc] at hz ⊢
      rw [f_X7_spoilSheet_72, f_X8_spoilSheet_140, K.1, if_neg (show ¬ (nI (g p) ≤ nI q) from fun z => by have := (nI_leI (by omega) (by omega)).mp z; omega), c_numAt K, bs, c_stands R u9 H.2.2.2 (by omega) (by omega), bs, gd_i (by omega) (by decide), nI_clamp (by omega), T _ (by omega), if_neg (show ¬ (nI (g p) ≤ nI q) from fun z => by have := (nI_leI (by omega) (by omega)).mp z; omega), m_numAt T (by omega) (by omega), bs, m_star S u9 H.2.2.2 (by omega) (by omega), bs, p1, p0]
      by_cases e2 : sA h (cq g s p t q) = -4
      · rw [if_pos e2] at hz ⊢
        rw [show sA h (1000 * s + (Fs g s p + q * g (6 + 6 * s + p) + t)) = sA h (cq g s p t q) from rfl, decide_eq_false (fun z => z e2), if_pos bIf, if_pos e2]
        obtain ⟨σ2, k1, k2, k3⟩ := c_add R (by omega) z9 (s := s) (v := Fs g s p + q * g (6 + 6 * s + p) + t) (by omega) (by omega)
        obtain ⟨τ2, k4, k5, k6⟩ := m_add S (by omega) s (Fs g s p + q * g (6 + 6 * s + p) + t)
        have hV := H.ad (c := cq g s p t q) (by omega) z9 (by unfold cq; omega)
        have hra : rc (adS h (cq g s p t q)) (cq g s p t) (g p - (q + 1)) (q + 1) = rc h (cq g s p t) (g p - (q + 1)) (q + 1) := rc_ad (by omega) _ _ (fun j q1 q2 => by
          unfold cq
          have h5 : (q + 1) * g (6 + 6 * s + p) ≤ j * g (6 + 6 * s + p) := Nat.mul_le_mul_right _ q1
          rw [Nat.add_mul] at h5
          omega)
        have hau := ad_u (h := h) (c := cq g s p t q) (by omega)
        obtain ⟨σ1, τ1, h1', j1, j2, j3, j4, j5, j6, j7, j8, j9, j10⟩ := ih (q + 1) (adS h (cq g s p t q)) σ2 τ2 (by unfold KS; rw [k2 k (by omega) (by omega) (by omega)]; exact K) (T.cg (k5 2 (by decide))) k3 k6 hV (by omega) (by omega) (by rw [hra, hau]; omega)
        rw [k1, bs, k4, bs, if_pos (show (0 : Int32) ≤ nI (h 111) from nI_pos' (by omega))]
        refine ⟨σ1, τ1, h1', j1, j2, ?_, ?_, j5, j6, j7, ?_, ?_, ?_⟩
        · intro j a1 a2 a3; rw [j3 j a1 a2 a3, k2 j a1 a2 a3]
        · intro j a1; rw [j4 j a1, k5 j a1]
        · rw [j8, hra, hau]; omega
        · intro i hi; rw [j9 i hi, ad_l hi]
        · intro i hi; rw [j10 i (by rw [hau]; omega), ad_i (by omega) hi]
      · rw [if_neg e2] at hz ⊢
        rw [show sA h (1000 * s + (Fs g s p + q * g (6 + 6 * s + p) + t)) = sA h (cq g s p t q) from rfl, decide_eq_true e2, if_neg bIt, if_neg e2, Nat.zero_add]
        exact ih (q + 1) h σ τ K T R S H (by omega) (by omega) (by omega)
end SH
theorem s_spoilSheet {σ τ : Me} (I : Inv σ τ) (x1 x2 x3 : Int32) : ∃ σ' τ' r, f_X7_spoilSheet σ x1 x2 x3 = some (σ', r) ∧ f_X8_spoilSheet τ x1 x2 x3 = some (τ', r) ∧ Inv σ' τ' := by
  obtain ⟨P, Dd, g, kept, hs, len, tx, hD, hPD, h04, Q, Ih, It⟩ := id I
  obtain ⟨hk, h03, V, H, T, S, L, R⟩ := id Q
  have h3 := V.1.2.1
  have h4 := V.1.1
  have z9 := V.1.2.2.1
  have u9 := h99 V.1 H
  unfold f_X7_spoilSheet f_X8_spoilSheet
  rw [Q.eP, gd_d hk, m_isS T, bs]
  cases hr : rng x1 0 (nI (g 23) - 1) with
  | false => rw [c_shPN1 L hr, bs, oc_n, if_pos bIf]; exact ⟨_, _, _, rfl, rfl, I⟩
  | true =>
    obtain ⟨s, hss, rfl⟩ := rng_ex (by omega) hr
    have E := L.2.2.2.2 s hss
    rw [if_neg bIt, m_isP T, bs]
    cases hr2 : rng x2 0 (nI (g 22) - 1) with
    | false => rw [c_shPN2 L V.1 hk hss hr2, bs, oc_n, if_pos bIf]; exact ⟨_, _, _, rfl, rfl, I⟩
    | true =>
      obtain ⟨p, hp, rfl⟩ := rng_ex (by omega) hr2
      have Hs := E.2.2.2.2 p hp
      have hd := (V.1.2.2.2.2 s (by omega)).2.2 p (by omega)
      have h8 := V.1.2.2.2.1 p (by omega)
      have hrn := H.2.1 s (by omega) p (by omega)
      rw [c_shP L V.1 hk hss hp, bs, oc_s, gd_d (kd_H (kd_S hk (by omega)) (by omega)), if_neg bIt, m_sheets T (by omega) (by omega), bs, fi0, bs]
      unfold f_X4_hasSheet
      rw [Hs.2.1, ft, bs, bs]
      cases hr3 : rng x3 0 (nI (g (6 + 6 * s + p)) - 1) with
      | false => rw [if_pos bIf, if_pos bIf]; exact ⟨_, _, _, rfl, rfl, I⟩
      | true =>
        obtain ⟨t, ht, rfl⟩ := rng_ex (by omega) hr3
        have hP9 := kd9 hk
        generalize hK : P + 2 + 1 + 6 * s + 1 + 1 + p = k at *
        have K : KS σ k s p g := ⟨Hs.1, Hs.2.1, Hs.2.2.1⟩
        have c1 : f_X7_unspoiledOfSheet σ (nI s) k (nI t) = some (nI (rc (hs kept) (cq g s p t) (g p) 0)) := by
          have := c_open V hss hp ht K R H 1000 0 0 (by omega) (by omega)
          rw [Nat.zero_add] at this
          exact this
        have m1 : f_X8_spoilSheet_42 1000 τ (nI s) (nI p) (nI t) 0 0 = f_X8_spoilSheet_42 1 τ (nI s) (nI p) (nI t) (nI (rc (hs kept) (cq g s p t) (g p) 0)) (nI (g p)) := by
          have := m_open V hss hp ht T S H 1000 0 0 (by omega) (by omega)
          rw [Nat.zero_add] at this
          exact this
        have hrl := rc_le (hs kept) (cq g s p t) (g p) 0
        rw [if_neg bIt, if_neg bIt, c1, bs, m1, f_X8_spoilSheet_42, gd_i (by omega) (by decide), nI_clamp (by omega), T _ (by omega), if_pos (show nI (g p) ≤ nI (g p) from nI_le (Nat.le_refl _) (by omega)), u4, nI_add (4 * s) p, gd_i (by omega) (by decide), nI_clamp (by omega), S _ (by omega), Hs.2.2.2]
        by_cases e1 : nI (hs kept (4 * s + p)) ≤ nI t
        · rw [if_pos e1, if_pos e1]; exact ⟨_, _, _, rfl, rfl, I⟩
        · rw [if_neg e1, if_neg e1]
          generalize hrc : rc (hs kept) (cq g s p t) (g p) 0 = o at *
          by_cases e2 : nI o = 0
          · rw [if_pos e2, if_pos e2]; exact ⟨_, _, _, rfl, rfl, I⟩
          · unfold f_X5_left
            have hz := H.1
            rw [if_neg e2, if_neg e2, R.1, R.2.1, pk_sub H.1, bs, if_le (by omega) (by omega), S 111 (by decide), T 24 (by decide), nI_add, if_le (by omega) (by omega)]
            by_cases e3 : hs kept 111 + o ≤ g 24
            · rw [if_pos (by omega), if_pos e3]
              obtain ⟨τ0, k5, no⟩ := note1 Ih.1 Ih.2.2.1
              obtain ⟨σ1, τ1, h1, j1, j2, j3, j4, j5, j6, j7, j8, j9, j10⟩ := ss2 V hss hp ht (k := k) (by omega) o 1000 0 (hs kept) σ τ0 K (T.cg (no.1 2 (by decide) (by decide))) R (S.cg (no.1 4 (by decide) (by decide))) H (by omega) (by omega) (by rw [Nat.sub_zero, hrc]; exact e3)
              rw [Nat.sub_zero, hrc] at j8
              obtain ⟨σ2, k4, re⟩ := re_n (σ := σ1) Ih.1 (by rw [j3 6 (by decide) (by decide) (by decide)]; exact Ih.2.1) (fun j hj => by rw [j3 7 (by decide) (by decide) (by decide)]; exact (Ih.2.2.2.2.2 j hj).ok hk V.1) (nI o)
              have K1 : σ1 k 0 = nI (g p) := by rw [j3 k (by omega) (by omega) (by omega)]; exact Hs.1
              rw [show f_X7_spoilSheet_72 1000 σ (nI s) (nI t) k (nI o) 0 = _ from j1, f_X7_spoilSheet_72, K1, if_pos (show nI (g p) ≤ nI (g p) from nI_le (Nat.le_refl _) (by omega)), k4, bs, k5, bs, show f_X8_spoilSheet_140 1000 τ0 (nI s) (nI p) (nI t) (nI o) 0 = _ from j2]
              refine ⟨_, _, _, rfl, rfl, ?_⟩
              exact Inv.stars (n := o) hD hPD h04 Q Ih It j3 j5 re no j4 j6 j7 (by omega) j8 j9 j10
            · rw [if_neg (by omega), if_neg e3]; exact ⟨_, _, _, rfl, rfl, I⟩
