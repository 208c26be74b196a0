/-! the invariant between class and reference; runs of sheets -/
def ST (P : Nat) (g : Nat → Nat) (code amt : Int32) (a b : Nat → Nat) : Prop := ∃ n, n ≤ 200 ∧ amt = nI n ∧ ((code = -1 ∧ b 111 = a 111 + n ∧ (∀ i, i < 12 → b i = a i) ∧ ∀ i, i < a 111 → b (12 + i) = a (12 + i)) ∨ ∃ s p, s < g 23 ∧ p < g 22 ∧ code = nI (P + 2 + 1 + 6 * s + 1 + 1 + p) ∧ b (4 * s + p) = a (4 * s + p) + n ∧ (∀ i, i < 12 → i ≠ 4 * s + p → b i = a i) ∧ b 111 = a 111 ∧ ∀ i, i < a 111 → b (12 + i) = a (12 + i))
def IH (σ τ : Me) (P : Nat) (g : Nat → Nat) (kept : Nat) (hs : Nat → Nat → Nat) : Prop := kept ≤ 6 ∧ σ 6 2 = nI kept ∧ τ 0 7 = nI kept ∧ (∀ j, j ≤ kept → VH g (hs j)) ∧ (∀ j, j < kept → ∀ i, i < 112 → τ 5 (112 * j + i) = nI (hs j i)) ∧ ∀ j, j < kept → ST P g (σ 7 j) (σ 8 j) (hs j) (hs (j + 1))
def IT (σ τ : Me) (len : Nat) (tx : Nat → Nat) : Prop := len ≤ 200 ∧ σ 1 1 = nI len ∧ τ 0 0 = nI len ∧ ∀ i, i < len → σ 2 i = nI (tx i) ∧ τ 1 i = nI (tx i) ∧ 32 ≤ tx i ∧ tx i ≤ 126
def Inv (σ τ : Me) : Prop := ∃ (P Dd : Nat) (g : Nat → Nat) (kept : Nat) (hs : Nat → Nat → Nat) (len : Nat) (tx : Nat → Nat), kd Dd = 9 ∧ P ≠ Dd ∧ σ 0 4 = nI Dd ∧ RQ σ τ P g (hs kept) ∧ IH σ τ P g kept hs ∧ IT σ τ len tx
theorem SR.ch {σ σ' : Me} {g h h' : Nat → Nat} (H : SR σ g h) (e3 : σ' 3 = σ 3) (e4 : σ' 4 = σ 4) (e5 : σ' 5 = σ 5) (e : h' 111 = h 111) (ei : ∀ i, i < h 111 → h' (12 + i) = h (12 + i)) : SR σ' g h' := by
  refine ⟨by rw [e3]; exact H.1, by rw [e3, e]; exact H.2.1, fun i hi => ?_⟩
  rw [e] at hi
  rw [e4, e5, ei i hi]; exact H.2.2 i hi
theorem ST.ok {P : Nat} {g : Nat → Nat} {code amt : Int32} {a b : Nat → Nat} (h : ST P g code amt a b) (hk : kd P = 9) (V : VB g) : cOK code := by
  obtain ⟨n, -, -, h | ⟨s, p, h1, h2, h3, -⟩⟩ := h
  · exact Or.inl h.1
  · have := V.1
    have := V.2.1
    exact Or.inr ⟨_, kd_H (kd_S hk (by omega)) (by omega), h3⟩
theorem IH.push {σ σ0 σ' τ τ' τ2 : Me} {P : Nat} {g : Nat → Nat} {kept : Nat} {hs : Nat → Nat → Nat} {code amt : Int32} {b : Nat → Nat} (I : IH σ τ P g kept hs) (S : SS τ (hs kept)) (re : reR σ0 σ' kept code amt) (e7 : σ0 7 = σ 7) (e8 : σ0 8 = σ 8) (no : noR τ τ' kept) (f0 : τ2 0 = τ' 0) (f5 : τ2 5 = τ' 5) (V : VH g b) (T : ST P g code amt (hs kept) b) :
    IH σ' τ2 P g (kept - dn kept + 1) (fun j => if j ≤ kept - dn kept then hs (j + dn kept) else b) := by
  have hd := dn_lt I.1
  refine ⟨by omega, re.2.1, by rw [f0]; exact no.2.2.1, fun j hj => ?_, fun j hj i hi => ?_, fun j hj => ?_⟩
  · show VH g (if j ≤ kept - dn kept then hs (j + dn kept) else b)
    by_cases e : j ≤ kept - dn kept
    · rw [if_pos e]; exact I.2.2.2.1 _ (by omega)
    · rw [if_neg e]; exact V
  · show _ = nI ((if j ≤ kept - dn kept then hs (j + dn kept) else b) i)
    rw [if_pos (by omega), f5]
    by_cases e : j < kept - dn kept
    · rw [no.2.2.2.1 j e i hi]; exact I.2.2.2.2.1 _ (by omega) i hi
    · have e2 : j = kept - dn kept := by omega
      subst e2
      rw [no.2.2.2.2 i hi, show kept - dn kept + dn kept = kept by omega]
      exact S i hi
  · show ST P g _ _ (if j ≤ kept - dn kept then hs (j + dn kept) else b) (if j + 1 ≤ kept - dn kept then hs (j + 1 + dn kept) else b)
    rw [if_pos (by omega)]
    by_cases e : j < kept - dn kept
    · have q := re.2.2.1 j e
      rw [if_pos (by omega), q.1, q.2, e7, e8, show j + 1 + dn kept = j + dn kept + 1 by omega]
      exact I.2.2.2.2.2 _ (by omega)
    · have e2 : j = kept - dn kept := by omega
      subst e2
      rw [if_neg (by omega), re.2.2.2.1, re.2.2.2.2, show kept - dn kept + dn kept = kept by omega]
      exact T
theorem top_hs {kept : Nat} {hs : Nat → Nat → Nat} {b : Nat → Nat} : (fun j => if j ≤ kept - dn kept then hs (j + dn kept) else b) (kept - dn kept + 1) = b := by
  show (if kept - dn kept + 1 ≤ kept - dn kept then _ else b) = b
  rw [if_neg (by omega)]
theorem PL.up3 {σ : Me} {P s p m : Nat} {g rn : Nat → Nat} (L : PL σ P g rn) (V : VB g) (hs : s < g 23) (hp : p < g 22) : PL (up σ (P + 2 + 1 + 6 * s + 1 + 1 + p) 3 (nI m)) P g (fun i => if i = 4 * s + p then m else rn i) := by
  have h4 := V.1
  have h3 := V.2.1
  refine ⟨?_, ?_, ?_, fun p' hp' => ?_, fun s' hs' => ?_⟩
  · rw [up_ne _ _ (by omega)]; exact L.1
  · rw [up_ne _ _ (by omega)]; exact L.2.1
  · rw [up_ne _ _ (by omega)]; exact L.2.2.1
  · rw [up_ne _ _ (by omega)]; exact L.2.2.2.1 p' hp'
  · have E := L.2.2.2.2 s' hs'
    refine ⟨?_, ?_, ?_, ?_, fun p' hp' => ?_⟩
    · rw [up_ne _ _ (by omega)]; exact E.1
    · rw [up_ne _ _ (by omega)]; exact E.2.1
    · rw [up_ne _ _ (by omega)]; exact E.2.2.1
    · rw [up_ne _ _ (by omega)]; exact E.2.2.2.1
    · have H := E.2.2.2.2 p' hp'
      refine ⟨?_, ?_, ?_, ?_⟩
      · rw [up_ne _ _ (by omega)]; exact H.1
      · rw [up_ne _ _ (by omega)]; exact H.2.1
      · rw [up_ne _ _ (by omega)]; exact H.2.2.1
      · show _ = nI (if 4 * s' + p' = 4 * s + p then m else rn (4 * s' + p'))
        by_cases e : 4 * s' + p' = 4 * s + p
        · have e1 : s' = s := by omega
          have e2 : p' = p := by omega
          subst e1; subst e2
          rw [if_pos rfl, up_eq]
        · rw [if_neg e, up_ne _ _ (by omega)]; exact H.2.2.2
theorem s_run {σ τ : Me} (I : Inv σ τ) (x1 x2 x3 : Int32) : ∃ σ' τ' r, f_X7_run σ x1 x2 x3 = some (σ', r) ∧ f_X8_run τ x1 x2 x3 = some (τ', r) ∧ Inv σ' τ' := by
  obtain ⟨P, Dd, g, kept, hs, len, tx, hD, hPD, h04, Q, Ih, It⟩ := id I
  obtain ⟨hk, h03, V, H, T, S, L, R⟩ := id Q
  have h3 := V.1.2.1
  have h4 := V.1.1
  unfold f_X7_run f_X8_run
  rw [Q.eP, gd_d hk, m_isS T, bs]
  cases hr : rng x1 0 (nI (g 23) - 1) with
  | false => rw [c_shPN1 L hr, bs, oc_n, if_pos bIf]; exact ⟨_, _, _, rfl, rfl, I⟩
  | true =>
    obtain ⟨s, hss, rfl⟩ := rng_ex (by omega) hr
    have E := L.2.2.2.2 s hss
    rw [if_neg bIt, m_isP T, bs]
    cases hr2 : rng x2 0 (nI (g 22) - 1) with
    | false => rw [c_shPN2 L V.1 hk hss hr2, bs, oc_n, if_pos bIf]; exact ⟨_, _, _, rfl, rfl, I⟩
    | true =>
      obtain ⟨p, hp, rfl⟩ := rng_ex (by omega) hr2
      have Hs := E.2.2.2.2 p hp
      have hd := (V.1.2.2.2.2 s (by omega)).2.2 p (by omega)
      have hrn := H.2.1 s (by omega) p (by omega)
      rw [c_shP L V.1 hk hss hp, bs, oc_s, gd_d (kd_H (kd_S hk (by omega)) (by omega)), if_neg bIt, ft, bs, fi x3 1 40 (by decide) (by decide), bs]
      cases hr3 : rng x3 1 40 with
      | false => rw [if_pos bIf, if_pos bIf]; exact ⟨_, _, _, rfl, rfl, I⟩
      | true =>
        obtain ⟨n, hn1, hn2, rfl⟩ := rng_el (a := 1) (b := 40) rfl rfl (by decide) (by decide) hr3
        unfold f_X4_sheetsLeft
        rw [if_neg bIt, if_neg bIt, bs, Hs.2.1, Hs.2.2.2, pk_sub hrn, if_le (by omega) (by omega), u4, nI_add (4 * s) p, gd_i (by omega) (by decide), m_sheets T (by omega) (by omega), bs, nI_clamp (by omega), S _ (by omega), nI_add, if_le (by omega) (by omega)]
        by_cases e : hs kept (4 * s + p) + n ≤ g (6 + 6 * s + p)
        · rw [if_pos (by omega), if_pos e]
          have hP9 := kd9 hk
          generalize hK : P + 2 + 1 + 6 * s + 1 + 1 + p = k at *
          obtain ⟨σ', g1, re⟩ := re_s (σ := up σ k 3 (nI (hs kept (4 * s + p) + n))) (k := k) Ih.1 (by rw [up_ne _ _ (by omega)]; exact Ih.2.1) (fun j hj => by rw [up_ne _ _ (by omega)]; exact (Ih.2.2.2.2.2 j hj).ok hk V.1) (nI n)
          obtain ⟨τ1, g2, no⟩ := note1 Ih.1 Ih.2.2.1
          rw [g1, bs, g2, bs, gd_i (by omega) (by decide), gd_i (by omega) (by decide), gd_i (by omega) (by decide), no.1 4 (by decide) (by decide), nI_clamp (by omega), S _ (by omega), nI_add, up_oth _ _ _ (by decide), no.1 2 (by decide) (by decide), T _ (by omega), re.1 k (by omega) (by omega) (by omega), up_ne _ _ (by omega), Hs.1]
          have hV : VH g (fun i => if i = 4 * s + p then hs kept (4 * s + p) + n else hs kept i) := by
            refine ⟨?_, fun s' hs' p' hp' => ?_, fun s' hs' p' hp' hz => ?_, fun i hi => ?_⟩
            · show (if 111 = 4 * s + p then _ else hs kept 111) ≤ _
              rw [if_neg (by omega)]; exact H.1
            · show (if 4 * s' + p' = 4 * s + p then _ else hs kept (4 * s' + p')) ≤ _
              by_cases e1 : 4 * s' + p' = 4 * s + p
              · rw [if_pos e1, show s' = s by omega, show p' = p by omega]; exact e
              · rw [if_neg e1]; exact H.2.1 s' hs' p' hp'
            · show (if 4 * s' + p' = 4 * s + p then _ else hs kept (4 * s' + p')) = 0
              rw [if_neg (by omega)]; exact H.2.2.1 s' hs' p' hp' hz
            · have hi : i < (if 111 = 4 * s + p then hs kept (4 * s + p) + n else hs kept 111) := hi
              rw [if_neg (by omega)] at hi
              show (if 12 + i = 4 * s + p then _ else hs kept (12 + i)) < 3000
              rw [if_neg (by omega)]; exact H.2.2.2 i hi
          refine ⟨_, _, _, rfl, rfl, P, Dd, g, kept - dn kept + 1, (fun j => if j ≤ kept - dn kept then hs (j + dn kept) else (fun i => if i = 4 * s + p then hs kept (4 * s + p) + n else hs kept i)), len, tx, hD, hPD, ?_, ?_, ?_, ?_⟩
          · rw [re.1 0 (by decide) (by decide) (by decide), up_ne _ _ (by omega)]; exact h04
          · rw [top_hs]
            refine ⟨hk, ?_, V, hV, ?_, ?_, ?_, ?_⟩
            · rw [re.1 0 (by decide) (by decide) (by decide), up_ne _ _ (by omega)]; exact h03
            · exact T.cg (by rw [up_oth _ _ _ (by decide), no.1 2 (by decide) (by decide)])
            · intro j hj
              show _ = nI (if j = 4 * s + p then _ else hs kept j)
              by_cases e1 : j = 4 * s + p
              · rw [if_pos e1, e1, up_eq]
              · rw [if_neg e1, up_ne _ _ (by omega), no.1 4 (by decide) (by decide)]; exact S j hj
            · subst hK
              exact (L.up3 V.1 hss hp).cg V.1.1 V.1.2.1 (fun k h1 h2 => re.1 k (by omega) (by omega) (by omega))
            · exact SR.ch (σ' := σ') R (by rw [re.1 3 (by decide) (by decide) (by decide), up_oth _ _ _ (by omega)]) (by rw [re.1 4 (by decide) (by decide) (by decide), up_oth _ _ _ (by omega)]) (by rw [re.1 5 (by decide) (by decide) (by decide), up_oth _ _ _ (by omega)]) (if_neg (by omega)) (fun i hi => if_neg (by omega))
          · refine Ih.push S re (up_oth _ _ _ (by omega)) (up_oth _ _ _ (by omega)) no (up_oth _ _ _ (by decide)) (up_oth _ _ _ (by decide)) hV ⟨n, by omega, rfl, Or.inr ⟨s, p, hss, hp, by rw [hK], ?_, ?_, ?_, ?_⟩⟩
            · show (if 4 * s + p = 4 * s + p then _ else _) = _
              rw [if_pos rfl]
            · intro i hi hne
              show (if i = 4 * s + p then _ else _) = _
              rw [if_neg hne]
            · show (if 111 = 4 * s + p then _ else _) = _
              rw [if_neg (by omega)]
            · intro i hi
              show (if 12 + i = 4 * s + p then _ else _) = _
              rw [if_neg (by omega)]
          · refine ⟨It.1, ?_, ?_, fun i hi => ?_⟩
            · rw [re.1 1 (by decide) (by decide) (by decide), up_ne _ _ (by omega)]; exact It.2.1
            · rw [up_oth _ _ _ (by decide), no.2.1 0 (by decide)]; exact It.2.2.1
            · rw [re.1 2 (by decide) (by decide) (by decide), up_oth _ _ _ (by omega), up_oth _ _ _ (by decide), no.1 1 (by decide) (by decide)]; exact It.2.2.2 i hi
        · rw [if_neg (by omega), if_neg e]; exact ⟨_, _, _, rfl, rfl, I⟩
