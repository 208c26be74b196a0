/-! items, the text, fault and lay -/
theorem m_let {τ : Me} {len i : Nat} {tx : Nat → Nat} (T : TM τ len tx) : (f_X8_in (if i < len then nI (tx i) else 0).toInt64 97 122) = some (decide (i < len ∧ 97 ≤ tx i ∧ tx i ≤ 122)) := by
  rw [fi _ 97 122 (by decide) (by decide)]
  by_cases e : i < len
  · have hb := (T.2.2 i e).2
    rw [if_pos e]
    by_cases e2 : 97 ≤ tx i ∧ tx i ≤ 122
    · rw [rng_tl (y := 97) (z := 122) (a := 97) (b := 122) rfl rfl e2.1 e2.2 (by decide), decide_eq_true ⟨e, e2⟩]
    · rw [decide_eq_false (fun q => e2 q.2)]
      cases hq : rng (nI (tx i)) 97 122 with
      | false => rfl
      | true =>
        obtain ⟨j, h1, h2, h3⟩ := rng_el (a := 97) (b := 122) rfl rfl (by decide) (by decide) hq
        have := (nI_eq (by omega) (by omega)).mp h3
        exact absurd ⟨by omega, by omega⟩ e2
  · rw [if_neg e, decide_eq_false (fun q => e q.1)]; decide
theorem dup_loop {σ τ : Me} {D l : Nat} {g : Nat → Nat} (L : PL σ D g (fun _ => 0)) (Rd : RD τ g) (V : VG g) (hk : g 23 < 3) (hl : g (4 + 6 * g 23) = l) (hl2 : l ≤ 26) : ∀ n m o, o ≤ g 23 → g 23 - o < n → g 23 - o < m → (∃ s, s < 3 ∧ f_X2_seriesOfLetter_2 n σ D (nI l) (nI o) = some (nI s) ∧ f_X8_seriesItem_72 m τ (nI (g 23)) (nI (4 + 6 * g 23)) (nI o) = some (τ, false)) ∨ (f_X2_seriesOfLetter_2 n σ D (nI l) (nI o) = some (-4) ∧ f_X8_seriesItem_72 m τ (nI (g 23)) (nI (4 + 6 * g 23)) (nI o) = f_X8_seriesItem_72 1 τ (nI (g 23)) (nI (4 + 6 * g 23)) (nI (g 23))) := by
  intro n
  induction n with
  | zero => intro m o h1 h2; omega
  | succ n ih =>
    intro m o h1 h2 h3
    obtain ⟨m, rfl⟩ : ∃ m', m = m' + 1 := ⟨m - 1, by omega⟩
    by_cases e : o = g 23
    · rw [e, f_X2_seriesOfLetter_2, L.2.1, if_pos (nI_le (Nat.le_refl _) (by omega)), f_X8_seriesItem_72, f_X8_seriesItem_72, if_pos (nI_le (Nat.le_refl _) (by omega)), if_pos (nI_le (Nat.le_refl _) (by omega))]
      exact Or.inr ⟨rfl, rfl⟩
    · have hb := (V.1.2.2.2.2 o (by omega)).1
      rw [f_X2_seriesOfLetter_2, L.2.1, if_neg (show ¬ (nI (g 23) ≤ nI o) from fun q => by have := (nI_leI (by omega) (by omega)).mp q; omega), gd_i (by omega) (by decide), nI_clamp (by omega), (L.2.2.2.2 o (by omega)).2.1, if_eq (by omega) (by omega), p1, f_X8_seriesItem_72, if_neg (show ¬ (nI (g 23) ≤ nI o) from fun q => by have := (nI_leI (by omega) (by omega)).mp q; omega), u6, a4, gd_i (by omega) (by decide), gd_i (by omega) (by decide), nI_clamp (by omega), nI_clamp (by omega), Rd _ (by omega), Rd _ (by omega), hl, if_eq (by omega) (by omega), p1]
      by_cases e2 : g (4 + 6 * o) = l
      · rw [if_pos e2, if_pos e2]
        exact Or.inl ⟨o, by omega, rfl, rfl⟩
      · rw [if_neg e2, if_neg e2]
        exact ih m (o + 1) (by omega) (by omega) (by omega)
theorem it_s {σ τ : Me} {D len i : Nat} {tx g : Nat → Nat} (S : PS σ τ D len i tx g) (h2 : τ 0 2 = nI (i + 1)) (hi : i < len) (hc : tx i = 115) : ∃ σ' τ' b b', f_X6_readItem σ D = some (σ', b) ∧ f_X8_item τ (nI 115) = some (τ', b') ∧ IR σ τ σ' τ' D len (i + 1) tx b b' := by
  obtain ⟨hD, TC0, TM0, hil, h12, L, Rd, V⟩ := S
  have hD9 := D9 hD
  have hl := TC0.1
  have h3 := V.1.2.1
  have h4 := V.1.1
  have f1 : FC σ (up σ 1 2 (nI (i + 1))) D := FC.at _ hD9
  have T1 : TC (up σ 1 2 (nI (i + 1))) len tx := TC0.cg f1 hD9
  unfold f_X6_readItem f_X8_item
  rw [show (112 : Int32) = nI 112 from rfl, show (115 : Int32) = nI 115 from rfl, c_skF TC0 h12 hil (by decide) (by omega), bs, if_pos bIf, c_skT TC0 h12 hi hc, bs, if_neg bIt, if_neg (show ¬ (nI 115 = nI 112) by decide), if_pos rfl]
  dsimp only
  unfold f_X6_readSeries f_X8_seriesItem f_X2_nextSeries
  rw [up_ne _ _ (by omega), L.2.1, Rd 23 (by decide)]
  by_cases e3 : g 23 = 3
  · rw [if_pos (show (3 : Int32) ≤ nI (g 23) by rw [e3]; decide), bs, oc_n, if_pos (show nI (g 23) = (3 : Int32) by rw [e3]; rfl)]
    by_cases eL : i + 1 < len ∧ 97 ≤ tx (i + 1) ∧ tx (i + 1) ≤ 122
    · rw [c_letT T1 (up_eq _ _ _ _) eL, bs]
      exact ⟨_, _, _, _, rfl, rfl, IR.no (f1.tr (FC.at _ hD9)) FM.rf⟩
    · rw [c_letF T1 (up_eq _ _ _ _) (by omega) eL, bs]
      exact ⟨_, _, _, _, rfl, rfl, IR.no f1 FM.rf⟩
  · have hk : g 23 < 3 := by omega
    have hkq : kd (D + 2 + 1 + 6 * g 23) = 12 := kd_S hD hk
    rw [if_neg (show ¬ ((3 : Int32) ≤ nI (g 23)) from fun q => by have := (nI_leI (a := 3) (by decide) (by omega)).mp q; omega), gd_i hk (by decide), nI_clamp (by omega), bs, oc_s, gd_d hkq, if_neg (show ¬ (nI (g 23) = (3 : Int32)) from fun q => e3 ((nI_eq (b := 3) (by omega) (by decide)).mp q)), h2, m_byte TM0 (by omega), bs, m_let TM0, bs]
    by_cases eL : i + 1 < len ∧ 97 ≤ tx (i + 1) ∧ tx (i + 1) ≤ 122
    · rw [c_letT T1 (up_eq _ _ _ _) eL, bs, decide_eq_true eL, if_neg bIt, bs, if_pos eL.1, l96 (by omega), u6, a4, gd_i (by omega) (by decide), nI_clamp (by omega), up_ne (k' := 0) (j' := 2) (k := 3) _ _ (by omega), h2, p1]
      dsimp only
      rw [if_neg (nI_m4 (by omega)), up_up]
      have hl26 : tx (i + 1) - 96 ≤ 26 := by omega
      generalize hll : tx (i + 1) - 96 = l at *
      have f2 : FC σ (up σ 1 2 (nI (i + 1 + 1))) D := FC.at _ hD9
      have T2 : TC (up σ 1 2 (nI (i + 1 + 1))) len tx := TC0.cg f2 hD9
      have g2 : FM τ (up (up τ 3 (4 + 6 * g 23) (nI l)) 0 2 (nI (i + 1 + 1))) := (FM.rd _ _).tr (FM.sp _)
      have M2 : TM (up (up τ 3 (4 + 6 * g 23) (nI l)) 0 2 (nI (i + 1 + 1))) len tx := TM0.cg g2
      have n23 : un g (4 + 6 * g 23) l 23 = g 23 := un_ne (by omega)
      have n22 : un g (4 + 6 * g 23) l 22 = g 22 := un_ne (by omega)
      have R2 : RD (up (up τ 3 (4 + 6 * g 23) (nI l)) 0 2 (nI (i + 1 + 1))) (un g (4 + 6 * g 23) l) := RD_sp (RD_un Rd _ _) _
      have L2 : PL (up σ 1 2 (nI (i + 1 + 1))) D (un g (4 + 6 * g 23) l) (fun _ => 0) := (PL_un L V.1 (by omega) (by omega)).cg (by rw [n22]; exact h4) (by rw [n23]; exact h3) (fun k a1 a2 => up_oth _ _ _ (by omega))
      have V2 : VG (un g (4 + 6 * g 23) l) := by
        refine ⟨⟨by rw [n22]; exact h4, by rw [n23]; exact h3, by rw [un_ne (by omega)]; exact V.1.2.2.1, fun p hp => ?_, fun s hs => ⟨?_, ?_, fun p hp => ?_⟩⟩, VM_un V (by omega) (by omega)⟩
        · rw [un_ne (by omega)]; exact V.1.2.2.2.1 p hp
        · by_cases es : 4 + 6 * s = 4 + 6 * g 23
          · rw [es, un_eq]; exact hl26
          · rw [un_ne es]; exact (V.1.2.2.2.2 s hs).1
        · rw [un_ne (by omega)]; exact (V.1.2.2.2.2 s hs).2.1
        · rw [un_ne (by omega)]; exact (V.1.2.2.2.2 s hs).2.2 p hp
      have dl := dup_loop (l := l) L2 R2 V2 (by rw [n23]; exact hk) (by rw [n23, un_eq]) hl26 1000 1000 0 (by omega) (by omega) (by omega)
      rw [n23] at dl
      unfold f_X2_seriesOfLetter
      rcases dl with ⟨s, hs, d1, d2⟩ | ⟨d1, d2⟩
      · rw [show f_X2_seriesOfLetter_2 1000 (up σ 1 2 (nI (i + 1 + 1))) D (nI l) 0 = some (nI s) from d1, bs, if_neg (nI_m4 (by omega)), show f_X8_seriesItem_72 1000 (up (up τ 3 (4 + 6 * g 23) (nI l)) 0 2 (nI (i + 1 + 1))) (nI (g 23)) (nI (4 + 6 * g 23)) 0 = _ from d2]
        exact ⟨_, _, _, _, rfl, rfl, IR.no f2 g2⟩
      · rw [show f_X2_seriesOfLetter_2 1000 (up σ 1 2 (nI (i + 1 + 1))) D (nI l) 0 = some (-4) from d1, bs, if_pos rfl, show f_X8_seriesItem_72 1000 (up (up τ 3 (4 + 6 * g 23) (nI l)) 0 2 (nI (i + 1 + 1))) (nI (g 23)) (nI (4 + 6 * g 23)) 0 = _ from d2, f_X8_seriesItem_72, if_pos (nI_le (Nat.le_refl _) (by omega)), show (44 : Int32) = nI 44 from rfl, m_gone M2 (up_eq _ _ _ _) (by omega) (by decide) (by decide), bs]
        dsimp only
        rw [up_up]
        have g3 : FM τ (up (up τ 3 (4 + 6 * g 23) (nI l)) 0 2 (nI (i + 1 + 1 + 1))) := (FM.rd _ _).tr (FM.sp _)
        have M3 : TM (up (up τ 3 (4 + 6 * g 23) (nI l)) 0 2 (nI (i + 1 + 1 + 1))) len tx := TM0.cg g3
        by_cases ec : i + 1 + 1 < len ∧ tx (i + 1 + 1) = 44
        · have f3 : FC σ (up σ 1 2 (nI (i + 1 + 1 + 1))) D := FC.at _ hD9
          have T3 : TC (up σ 1 2 (nI (i + 1 + 1 + 1))) len tx := TC0.cg f3 hD9
          rw [c_skT T2 (up_eq _ _ _ _) ec.1 ec.2, bs, if_neg bIt, decide_eq_true ec, if_neg bIt]
          dsimp only
          rw [up_up, p1]
          cases hn : nm tx len (i + 1 + 1 + 1) with
          | none =>
            rw [c_numN T3 (up_eq _ _ _ _) (by omega) hn, bs, m_numN M3 (up_eq _ _ _ _) (by omega) (by omega) _ _ hn, bs, if_pos bIf, f135, ft, bs, r42, if_pos bIf]
            exact ⟨_, _, _, _, rfl, rfl, IR.no f3 ((g3.tr (FM.rd _ _)).tr (FM.rd _ _))⟩
          | some vj =>
            obtain ⟨v, j⟩ := vj
            have hv := nm_some hn
            rw [c_numS T3 (up_eq _ _ _ _) hn, bs, m_numS M3 (up_eq _ _ _ _) (by omega) _ _ hn, bs]
            dsimp only
            rw [up_up, up_up, ft, bs]
            have f4 : FC σ (up σ 1 2 (nI j)) D := FC.at _ hD9
            have g4 : FM τ (up (up (up τ 3 (4 + 6 * g 23) (nI l)) 0 2 (nI j)) 3 (4 + 6 * g 23 + 1) (nI v)) := ((FM.rd _ _).tr (FM.sp _)).tr (FM.rd _ _)
            cases hr : rng (nI v) 0 2 with
            | false =>
              rw [if_pos bIf, if_pos bIf, f135]
              exact ⟨_, _, _, _, rfl, rfl, IR.no f4 (g4.tr (FM.rd _ _))⟩
            | true =>
              obtain ⟨v', -, hv2, hv3⟩ := rng_el (a := 0) (b := 2) rfl rfl (by decide) (by decide) hr
              have hvv := (nI_eq (by omega) (by omega)).mp hv3
              unfold f_X3_begin
              rw [if_neg bIt, if_neg bIt, bs, show 4 + 6 * g 23 + 1 = 5 + 6 * g 23 by omega]
              rw [show 4 + 6 * g 23 + 1 = 5 + 6 * g 23 by omega] at g4
              have m22 : un (un g (4 + 6 * g 23) l) (5 + 6 * g 23) v 22 = g 22 := by rw [un_ne (by omega), un_ne (by omega)]
              have m23 : un (un g (4 + 6 * g 23) l) (5 + 6 * g 23) v 23 = g 23 := by rw [un_ne (by omega), un_ne (by omega)]
              have f5 : FC σ (up (up (up (up (up σ 1 2 (nI j)) (D + 2 + 1 + 6 * g 23) 2 (nI l)) (D + 2 + 1 + 6 * g 23) 3 (nI v)) (D + 2 + 1 + 6 * g 23) 1 0) (D + 2 + 1 + 6 * g 23) 4 0) D := (((f4.tr (FC.pl _ _ (by omega) (by omega) hD9)).tr (FC.pl _ _ (by omega) (by omega) hD9)).tr (FC.pl _ _ (by omega) (by omega) hD9)).tr (FC.pl _ _ (by omega) (by omega) hD9)
              have row : ∀ k, k ≠ 1 → k ≠ D + 2 + 1 + 6 * g 23 → (up (up (up (up (up σ 1 2 (nI j)) (D + 2 + 1 + 6 * g 23) 2 (nI l)) (D + 2 + 1 + 6 * g 23) 3 (nI v)) (D + 2 + 1 + 6 * g 23) 1 0) (D + 2 + 1 + 6 * g 23) 4 0) k = σ k := fun k a1 a2 => by
                rw [up_oth _ _ _ a2, up_oth _ _ _ a2, up_oth _ _ _ a2, up_oth _ _ _ a2, up_oth _ _ _ a1]
              have hSI : SI (up (up (up (up (up σ 1 2 (nI j)) (D + 2 + 1 + 6 * g 23) 2 (nI l)) (D + 2 + 1 + 6 * g 23) 3 (nI v)) (D + 2 + 1 + 6 * g 23) 1 0) (D + 2 + 1 + 6 * g 23) 4 0) (up (up (up τ 3 (4 + 6 * g 23) (nI l)) 0 2 (nI j)) 3 (5 + 6 * g 23) (nI v)) D len j 0 tx (un (un g (4 + 6 * g 23) l) (5 + 6 * g 23) v) := by
                refine ⟨hD, TC0.cg f5 hD9, TM0.cg g4, by omega, ?_, by rw [up_ne _ _ (by omega), up_eq], ?_, RD_un (RD_sp (RD_un Rd _ _) _) _ _, ⟨⟨by rw [m22]; exact h4, by rw [m23]; exact h3, by rw [un_ne (by omega), un_ne (by omega)]; exact V.1.2.2.1, fun p hp => ?_, fun s hs => ⟨?_, ?_, fun p hp => ?_⟩⟩, VM_un V2 (by rw [n23]; omega) (by omega)⟩, by rw [m23]; exact hk, by omega, ?_⟩
                · rw [up_ne _ _ (by omega), up_ne _ _ (by omega), up_ne _ _ (by omega), up_ne _ _ (by omega), up_eq]
                · have Lp := PL_un (j := 5 + 6 * g 23) (v := v) (PL_un (j := 4 + 6 * g 23) (v := l) L V.1 (by omega) (by omega)) V2.1 (by rw [n23]; omega) (by omega)
                  refine ⟨?_, ?_, ?_, fun p hp => ?_, fun s hs => ?_⟩
                  · rw [row D (by omega) (by omega)]; exact Lp.1
                  · rw [row D (by omega) (by omega)]; exact Lp.2.1
                  · rw [row D (by omega) (by omega)]; exact Lp.2.2.1
                  · rw [m22] at hp; rw [row (D + 1) (by omega) (by omega)]; exact Lp.2.2.2.1 p (by rw [m22]; exact hp)
                  · rw [m23] at hs
                    exact (Lp.2.2.2.2 s (by rw [m23]; exact hs)).cg (by rw [m22]; exact h4) (fun k a1 a2 => row k (by omega) (by omega))
                · rw [un_ne (by omega)]; exact V2.1.2.2.2.1 p hp
                · rw [un_ne (by omega)]; exact (V2.1.2.2.2.2 s hs).1
                · by_cases es : 5 + 6 * s = 5 + 6 * g 23
                  · rw [es, un_eq]; omega
                  · rw [un_ne es]; exact (V2.1.2.2.2.2 s hs).2.1
                · rw [un_ne (by omega)]; exact (V2.1.2.2.2.2 s hs).2.2 p hp
                · rw [m23]
                  refine ⟨?_, ?_, ?_, ?_, fun p hp => absurd hp (Nat.not_lt_zero p)⟩
                  · rw [up_ne _ _ (by omega), up_eq]; rfl
                  · rw [up_ne _ _ (by omega), up_ne _ _ (by omega), up_ne _ _ (by omega), up_eq, un_ne (by omega), un_eq]
                  · rw [up_ne _ _ (by omega), up_ne _ _ (by omega), up_eq, un_eq]
                  · rw [up_eq]; rfl
              obtain ⟨σ', τ', b, b', r1, r2, r3⟩ := sr_loop (np := g 22) (k := g 23) 1000 1000 0 j _ _ _ hSI m22 m23 (by omega) (by omega)
              rw [show f_X6_readSeries_69 1000 (up (up (up (up (up σ 1 2 (nI j)) (D + 2 + 1 + 6 * g 23) 2 (nI l)) (D + 2 + 1 + 6 * g 23) 3 (nI v)) (D + 2 + 1 + 6 * g 23) 1 0) (D + 2 + 1 + 6 * g 23) 4 0) D (D + 2 + 1 + 6 * g 23) 0 = _ from r1, show f_X8_seriesItem_135 1000 (up (up (up τ 3 (4 + 6 * g 23) (nI l)) 0 2 (nI j)) 3 (5 + 6 * g 23) (nI v)) (nI (g 23)) (nI (4 + 6 * g 23)) 1 0 = _ from r2]
              exact ⟨σ', τ', b, b', rfl, rfl, r3.tr f5 g4 (by omega)⟩
        · rw [c_skF T2 (up_eq _ _ _ _) (by omega) (by decide) ec, bs, if_pos bIf, decide_eq_false ec, if_pos bIf, f135]
          exact ⟨_, _, _, _, rfl, rfl, IR.no f2 (g3.tr (FM.rd _ _))⟩
    · rw [c_letF T1 (up_eq _ _ _ _) (by omega) eL, bs, if_pos rfl, decide_eq_false eL, if_pos bIf]
      exact ⟨_, _, _, _, rfl, rfl, IR.no f1 FM.rf⟩
theorem item_rel {σ τ : Me} {D len i : Nat} {tx g : Nat → Nat} (S : PS σ τ D len i tx g) (h2 : τ 0 2 = nI (i + 1)) (hi : i < len) : ∃ σ' τ' b b', f_X6_readItem σ D = some (σ', b) ∧ f_X8_item τ (nI (tx i)) = some (τ', b') ∧ IR σ τ σ' τ' D len (i + 1) tx b b' := by
  by_cases e1 : tx i = 112
  · rw [e1]; exact it_p S h2 hi e1
  · by_cases e2 : tx i = 115
    · rw [e2]; exact it_s S h2 hi e2
    · by_cases e3 : tx i = 122
      · rw [e3]; exact it_z S h2 hi e3
      · exact it_o S hi e1 e2 e3
