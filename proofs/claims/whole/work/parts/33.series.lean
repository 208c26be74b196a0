/-! the item of a series -/
theorem IR.tr {σ τ σ0 τ0 σ' τ' : Me} {D len i j : Nat} {tx : Nat → Nat} {b b' : Bool} (f : FC σ σ0 D) (g : FM τ τ0) (h : IR σ0 τ0 σ' τ' D len j tx b b') (hij : i ≤ j) : IR σ τ σ' τ' D len i tx b b' := by
  refine ⟨f.tr h.1, g.tr h.2.1, h.2.2.1, fun e => ?_⟩
  obtain ⟨q, gN, h1, h2⟩ := h.2.2.2 e
  exact ⟨q, gN, by omega, h2⟩
theorem c_addSh {σ : Me} {q pr F pl v : Nat} (h1 : σ q 1 = nI pr) (hp : pr < 4) (h4 : σ q 4 = nI F) : f_X3_addShare σ q (nI pl) (nI v) = some (up (up (up (up (up (up σ (q + 1 + 1 + pr) 0 (nI pl)) (q + 1 + 1 + pr) 1 (nI v)) (q + 1 + 1 + pr) 2 (nI F)) (q + 1 + 1 + pr) 3 0) q 4 (nI (F + pl * v))) q 1 (nI (pr + 1))) := by
  unfold f_X3_addShare f_X4_begin
  rw [h1, if_pos (show nI pr < (4 : Int32) from nI_lt (b := 4) hp (by decide)), gd_i hp (by decide), nI_clamp (by omega), bs, h4]
  have hS : ∀ j, (up (up (up (up σ (q + 1 + 1 + pr) 0 (nI pl)) (q + 1 + 1 + pr) 1 (nI v)) (q + 1 + 1 + pr) 2 (nI F)) (q + 1 + 1 + pr) 3 0) q j = σ q j := fun j => by rw [up_ne _ _ (by omega), up_ne _ _ (by omega), up_ne _ _ (by omega), up_ne _ _ (by omega)]
  rw [hS 4, h4, pk_mul, nI_add, up_ne (k' := q) (j' := 1) (k := q) (j := 4) _ _ (by omega), hS 1, h1, p1]
def SI (σ τ : Me) (D len j pr : Nat) (tx g : Nat → Nat) : Prop := kd D = 9 ∧ TC σ len tx ∧ TM τ len tx ∧ j ≤ len ∧ σ 1 2 = nI j ∧ τ 0 2 = nI j ∧ PL σ D g (fun _ => 0) ∧ RD τ g ∧ VG g ∧ g 23 < 3 ∧ pr ≤ g 22 ∧ σ (D + 2 + 1 + 6 * g 23) 1 = nI pr ∧ σ (D + 2 + 1 + 6 * g 23) 2 = nI (g (4 + 6 * g 23)) ∧ σ (D + 2 + 1 + 6 * g 23) 3 = nI (g (5 + 6 * g 23)) ∧ σ (D + 2 + 1 + 6 * g 23) 4 = nI (Fs g (g 23) pr) ∧ ∀ p, p < pr → HS σ (D + 2 + 1 + 6 * g 23 + 1 + 1 + p) (g 23) p g (fun _ => 0)
theorem f135 (τ : Me) (x1 x2 x4 : Int32) (n : Nat) : f_X8_seriesItem_135 (n + 1) τ x1 x2 0 x4 = some (up τ 3 23 ((τ 3 23) + 1), false) := by
  have h : f_X8_seriesItem_188 τ x1 0 = some (up τ 3 23 ((τ 3 23) + 1), false) := by
    unfold f_X8_seriesItem_188; rw [if_pos rfl]
  rw [f_X8_seriesItem_135, h]
  by_cases e : τ 3 22 ≤ x4
  · rw [if_pos e]
  · rw [if_neg e, if_pos rfl]
theorem sr_end {σ τ : Me} {D len j : Nat} {tx g : Nat → Nat} (I : SI σ τ D len j (g 22) tx g) (n m : Nat) : ∃ σ' τ' b b', f_X6_readSeries_69 (n + 1) σ D (D + 2 + 1 + 6 * g 23) (nI (g 22)) = some (σ', b) ∧ f_X8_seriesItem_135 (m + 1) τ (nI (g 23)) (nI (4 + 6 * g 23)) 1 (nI (g 22)) = some (τ', b') ∧ IR σ τ σ' τ' D len j tx b b' := by
  obtain ⟨hD, T, M, hj, h12, h02, L, Rd, V, hk, -, q1, q2, q3, q4, qh⟩ := I
  have hD9 := D9 hD
  have hl := T.1
  have h4 := V.1.1
  have n22 : un g 23 (g 23 + 1) 22 = g 22 := un_ne (by decide)
  have eF : ∀ s, s < 3 → ∀ p, p ≤ 4 → Fs (un g 23 (g 23 + 1)) s p = Fs g s p := fun s hs p hp => Fs_cg p (fun o ho => ⟨un_ne (by omega), un_ne (by omega)⟩)
  have hF := Fs_le V.1 hk (g 22) h4
  have g1 : FM τ (up τ 3 23 (nI (g 23 + 1))) := FM.rd _ _
  have hR1 : RD (up τ 3 23 (nI (g 23 + 1))) (un g 23 (g 23 + 1)) := RD_un Rd _ _
  have hm : f_X8_seriesItem_135 (m + 1) τ (nI (g 23)) (nI (4 + 6 * g 23)) 1 (nI (g 22)) = some (up τ 3 23 (nI (g 23 + 1)), rng (nI (Fs g (g 23) (g 22))) 1 999) := by
    rw [f_X8_seriesItem_135, Rd 22 (by decide), if_pos (nI_le (Nat.le_refl _) (by omega))]
    unfold f_X8_seriesItem_188
    rw [if_neg (show ¬ ((1 : Int32) = 0) by decide), Rd 23 (by decide), p1, m_whole3 hR1 hk (by rw [n22]; exact h4), n22, eF _ hk _ h4, bs, fi _ 1 999 (by decide) (by decide), bs]
    cases rng (nI (Fs g (g 23) (g 22))) 1 999 with
    | false => rw [if_pos bIf]
    | true => rw [if_neg bIt]
  rw [hm, f_X6_readSeries_69, L.1, if_pos (nI_le (Nat.le_refl _) (by omega)), show (59 : Int32) = nI 59 from rfl]
  by_cases e : j < len ∧ tx j = 59
  · have f1 : FC σ (up σ 1 2 (nI (j + 1))) D := FC.at _ hD9
    rw [c_skT T h12 e.1 e.2, bs, if_neg bIt]
    dsimp only
    rw [up_ne _ _ (by omega), q4, ft, bs]
    cases hr : rng (nI (Fs g (g 23) (g 22))) 1 999 with
    | false => rw [if_pos bIf]; exact ⟨_, _, _, _, rfl, rfl, IR.no f1 g1⟩
    | true =>
      obtain ⟨v, hv1, hv2, hv3⟩ := rng_el (a := 1) (b := 999) rfl rfl (by decide) (by decide) hr
      have hvv := (nI_eq (by omega) (by omega)).mp hv3
      unfold f_X2_keepNextSeries
      rw [if_neg bIt, up_ne _ _ (by omega), L.2.1, if_neg (show ¬ ((3 : Int32) ≤ nI (g 23)) from fun q => by have := (nI_leI (a := 3) (by decide) (by omega)).mp q; omega), p1, bs]
      refine ⟨_, _, _, _, rfl, rfl, f1.tr (FC.pl _ _ (by omega) (by omega) hD9), g1, (fun h => by cases h), fun _ => ⟨j, un g 23 (g 23 + 1), by omega, hj, by rw [up_ne _ _ (by omega)]; exact h02, (decide_eq_true e).symm, fun _ => ⟨?_, ?_, hR1, ?_⟩⟩⟩
      · rw [up_ne _ _ (by omega), up_eq]
      · have er : ∀ k, k ≠ 1 → k ≠ D → (up (up σ 1 2 (nI (j + 1))) D 3 (nI (g 23 + 1))) k = σ k := fun k a1 a2 => by rw [up_oth _ _ _ a2, up_oth _ _ _ a1]
        refine ⟨?_, by rw [up_eq, un_eq], ?_, fun p hp => ?_, fun s hs => ?_⟩
        · rw [n22, up_ne _ _ (by omega), up_ne _ _ (by omega)]; exact L.1
        · rw [un_ne (by decide), up_ne _ _ (by omega), up_ne _ _ (by omega)]; exact L.2.2.1
        · rw [n22] at hp
          rw [un_ne (by omega), er _ (by omega) (by omega)]; exact L.2.2.2.1 p hp
        · rw [un_eq] at hs
          refine SE.cg (σ := σ) ?_ (by rw [n22]; exact h4) (fun k a1 a2 => er k (by omega) (by omega))
          by_cases es : s = g 23
          · subst es
            refine ⟨by rw [n22]; exact q1, by rw [un_ne (by omega)]; exact q2, by rw [un_ne (by omega)]; exact q3, by rw [n22, eF _ hk _ h4]; exact q4, fun p hp => ?_⟩
            rw [n22] at hp
            have H := qh p hp
            exact ⟨by rw [un_ne (by omega)]; exact H.1, by rw [un_ne (by omega)]; exact H.2.1, by rw [eF _ hk p (by omega)]; exact H.2.2.1, H.2.2.2⟩
          · have E := L.2.2.2.2 s (by omega)
            refine ⟨by rw [n22]; exact E.1, by rw [un_ne (by omega)]; exact E.2.1, by rw [un_ne (by omega)]; exact E.2.2.1, by rw [n22, eF s (by omega) _ h4]; exact E.2.2.2.1, fun p hp => ?_⟩
            rw [n22] at hp
            have H := E.2.2.2.2 p hp
            exact ⟨by rw [un_ne (by omega)]; exact H.1, by rw [un_ne (by omega)]; exact H.2.1, by rw [eF s (by omega) p (by omega)]; exact H.2.2.1, H.2.2.2⟩
      · refine ⟨⟨by rw [n22]; exact h4, by rw [un_eq]; omega, by rw [un_ne (by decide)]; exact V.1.2.2.1, fun p hp => ?_, fun s hs => ⟨?_, ?_, fun p hp => ?_⟩⟩, fun s hs => ?_⟩
        · rw [un_ne (by omega)]; exact V.1.2.2.2.1 p hp
        · rw [un_ne (by omega)]; exact (V.1.2.2.2.2 s hs).1
        · rw [un_ne (by omega)]; exact (V.1.2.2.2.2 s hs).2.1
        · rw [un_ne (by omega)]; exact (V.1.2.2.2.2 s hs).2.2 p hp
        · rw [un_eq] at hs
          rw [n22, eF s (by omega) _ h4]
          by_cases es : s = g 23
          · rw [es]; omega
          · exact V.2 s (by omega)
  · rw [c_skF T h12 hj (by decide) e, bs, if_pos bIf]
    cases hr : rng (nI (Fs g (g 23) (g 22))) 1 999 with
    | false => exact ⟨_, _, _, _, rfl, rfl, IR.no FC.rf g1⟩
    | true => exact ⟨_, _, _, _, rfl, rfl, FC.rf, g1, fun _ => rfl, fun _ => ⟨j, g, by omega, hj, by rw [up_ne _ _ (by omega)]; exact h02, (decide_eq_false e).symm, fun h => by cases h⟩⟩
theorem sr_loop {D len : Nat} {tx : Nat → Nat} {np k : Nat} : ∀ n m pr j (σ τ : Me) (g : Nat → Nat), SI σ τ D len j pr tx g → g 22 = np → g 23 = k → np - pr < n → np - pr + 1 < m → ∃ σ' τ' b b', f_X6_readSeries_69 n σ D (D + 2 + 1 + 6 * k) (nI pr) = some (σ', b) ∧ f_X8_seriesItem_135 m τ (nI k) (nI (4 + 6 * k)) 1 (nI pr) = some (τ', b') ∧ IR σ τ σ' τ' D len j tx b b' := by
  intro n
  induction n with
  | zero => intro m pr j σ τ g _ _ _ h1; omega
  | succ n ih =>
    intro m pr j σ τ g I e22 e23 h1 h2
    obtain ⟨m, rfl⟩ : ∃ m', m = m' + 1 := ⟨m - 1, by omega⟩
    subst e22; subst e23
    by_cases e : pr = g 22
    · subst e; exact sr_end I n m
    · obtain ⟨hD, T, M, hj, h12, h02, L, Rd, V, hk, hpr, q1, q2, q3, q4, qh⟩ := id I
      have hD9 := D9 hD
      have hl := T.1
      have h4 := V.1.1
      obtain ⟨m2, rfl⟩ : ∃ m', m = m' + 1 := ⟨m - 1, by omega⟩
      rw [f_X6_readSeries_69, f_X8_seriesItem_135, L.1, Rd 22 (by decide), if_neg (show ¬ (nI (g 22) ≤ nI pr) from fun q => by have := (nI_leI (by omega) (by omega)).mp q; omega), if_neg (show ¬ (nI (g 22) ≤ nI pr) from fun q => by have := (nI_leI (by omega) (by omega)).mp q; omega), if_neg (show ¬ ((1 : Int32) = 0) by decide), show (44 : Int32) = nI 44 from rfl, m_gone M h02 (by omega) (by decide) (by decide), bs]
      have g1 : FM τ (up τ 0 2 (nI (j + 1))) := FM.sp _
      have M1 : TM (up τ 0 2 (nI (j + 1))) len tx := M.cg g1
      by_cases ec : j < len ∧ tx j = 44
      · have f1 : FC σ (up σ 1 2 (nI (j + 1))) D := FC.at _ hD9
        have T1 : TC (up σ 1 2 (nI (j + 1))) len tx := T.cg f1 hD9
        rw [c_skT T h12 ec.1 ec.2, bs, if_neg bIt, decide_eq_true ec, if_neg bIt]
        dsimp only
        rw [p2, nI_add]
        cases hn : nm tx len (j + 1) with
        | none =>
          rw [c_numN T1 (up_eq _ _ _ _) (by omega) hn, bs, m_numN M1 (up_eq _ _ _ _) (by omega) (by omega) _ _ hn, bs, if_pos bIf, f135]
          unfold f_X6_readSeries_96
          rw [ft, bs, r440, if_pos bIf]
          exact ⟨_, _, _, _, rfl, rfl, IR.no f1 ((g1.tr (FM.rd _ _)).tr (FM.rd _ _))⟩
        | some vj =>
          obtain ⟨v, j2⟩ := vj
          have hv := nm_some hn
          rw [c_numS T1 (up_eq _ _ _ _) hn, bs, m_numS M1 (up_eq _ _ _ _) (by omega) _ _ hn, bs]
          dsimp only
          rw [up_up, up_up]
          have f2 : FC σ (up σ 1 2 (nI j2)) D := FC.at _ hD9
          have g2 : FM τ (up (up τ 0 2 (nI j2)) 3 (4 + 6 * g 23 + 2 + pr) (nI v)) := (FM.sp _).tr (FM.rd _ _)
          unfold f_X6_readSeries_96
          rw [ft, bs]
          cases hr : rng (nI v) 0 40 with
          | false =>
            rw [if_pos bIf, if_pos bIf, f135]
            exact ⟨_, _, _, _, rfl, rfl, IR.no f2 (g2.tr (FM.rd _ _))⟩
          | true =>
            obtain ⟨v', -, hv2, hv3⟩ := rng_el (a := 0) (b := 40) rfl rfl (by decide) (by decide) hr
            have hvv := (nI_eq (by omega) (by omega)).mp hv3
            rw [if_neg bIt, if_neg bIt, gd_i (by omega) (by decide), nI_clamp (by omega), up_oth (k' := D + 1) (k := 1) _ _ _ (by omega), L.2.2.2.1 pr (by omega), c_addSh (pr := pr) (F := Fs g (g 23) pr) (by rw [up_ne _ _ (by omega)]; exact q1) (by omega) (by rw [up_ne _ _ (by omega)]; exact q4), bs, p1]
            have eI : (4 + 6 * g 23 + 2 + pr) = 6 + 6 * g 23 + pr := by omega
            rw [eI] at g2 ⊢
            generalize hq : D + 2 + 1 + 6 * g 23 = q at *
            -- the new states
            have ef3 : FC σ (up (up (up (up (up (up (up σ 1 2 (nI j2)) (q + 1 + 1 + pr) 0 (nI (g pr))) (q + 1 + 1 + pr) 1 (nI v)) (q + 1 + 1 + pr) 2 (nI (Fs g (g 23) pr))) (q + 1 + 1 + pr) 3 0) q 4 (nI (Fs g (g 23) pr + g pr * v))) q 1 (nI (pr + 1))) D := (((((f2.tr (FC.pl _ _ (by omega) (by omega) hD9)).tr (FC.pl _ _ (by omega) (by omega) hD9)).tr (FC.pl _ _ (by omega) (by omega) hD9)).tr (FC.pl _ _ (by omega) (by omega) hD9)).tr (FC.pl _ _ (by omega) (by omega) hD9)).tr (FC.pl _ _ (by omega) (by omega) hD9)
            have row : ∀ k, k ≠ 1 → k ≠ q → k ≠ q + 1 + 1 + pr → (up (up (up (up (up (up (up σ 1 2 (nI j2)) (q + 1 + 1 + pr) 0 (nI (g pr))) (q + 1 + 1 + pr) 1 (nI v)) (q + 1 + 1 + pr) 2 (nI (Fs g (g 23) pr))) (q + 1 + 1 + pr) 3 0) q 4 (nI (Fs g (g 23) pr + g pr * v))) q 1 (nI (pr + 1))) k = σ k := fun k a1 a2 a3 => by
              rw [up_oth _ _ _ a2, up_oth _ _ _ a2, up_oth _ _ _ a3, up_oth _ _ _ a3, up_oth _ _ _ a3, up_oth _ _ _ a3, up_oth _ _ _ a1]
            have a1 : (up (up (up (up (up (up (up σ 1 2 (nI j2)) (q + 1 + 1 + pr) 0 (nI (g pr))) (q + 1 + 1 + pr) 1 (nI v)) (q + 1 + 1 + pr) 2 (nI (Fs g (g 23) pr))) (q + 1 + 1 + pr) 3 0) q 4 (nI (Fs g (g 23) pr + g pr * v))) q 1 (nI (pr + 1))) 1 2 = nI j2 := by
              rw [up_ne _ _ (by omega), up_ne _ _ (by omega), up_ne _ _ (by omega), up_ne _ _ (by omega), up_ne _ _ (by omega), up_ne _ _ (by omega), up_eq]
            have a4 : (up (up (up (up (up (up (up σ 1 2 (nI j2)) (q + 1 + 1 + pr) 0 (nI (g pr))) (q + 1 + 1 + pr) 1 (nI v)) (q + 1 + 1 + pr) 2 (nI (Fs g (g 23) pr))) (q + 1 + 1 + pr) 3 0) q 4 (nI (Fs g (g 23) pr + g pr * v))) q 1 (nI (pr + 1))) q 4 = nI (Fs g (g 23) pr + g pr * v) := by
              rw [up_ne _ _ (by omega), up_eq]
            have aq : ∀ c, c ≠ 1 → c ≠ 4 → (up (up (up (up (up (up (up σ 1 2 (nI j2)) (q + 1 + 1 + pr) 0 (nI (g pr))) (q + 1 + 1 + pr) 1 (nI v)) (q + 1 + 1 + pr) 2 (nI (Fs g (g 23) pr))) (q + 1 + 1 + pr) 3 0) q 4 (nI (Fs g (g 23) pr + g pr * v))) q 1 (nI (pr + 1))) q c = σ q c := fun c b1 b2 => by
              rw [up_ne _ _ (by omega), up_ne _ _ (by omega), up_ne _ _ (by omega), up_ne _ _ (by omega), up_ne _ _ (by omega), up_ne _ _ (by omega), up_ne _ _ (by omega)]
            have ah : (up (up (up (up (up (up (up σ 1 2 (nI j2)) (q + 1 + 1 + pr) 0 (nI (g pr))) (q + 1 + 1 + pr) 1 (nI v)) (q + 1 + 1 + pr) 2 (nI (Fs g (g 23) pr))) (q + 1 + 1 + pr) 3 0) q 4 (nI (Fs g (g 23) pr + g pr * v))) q 1 (nI (pr + 1))) (q + 1 + 1 + pr) = (up (up (up (up (up σ 1 2 (nI j2)) (q + 1 + 1 + pr) 0 (nI (g pr))) (q + 1 + 1 + pr) 1 (nI v)) (q + 1 + 1 + pr) 2 (nI (Fs g (g 23) pr))) (q + 1 + 1 + pr) 3 0) (q + 1 + 1 + pr) := by
              rw [up_oth _ _ _ (by omega), up_oth _ _ _ (by omega)]
            have h1q : (up (up (up (up (up (up (up σ 1 2 (nI j2)) (q + 1 + 1 + pr) 0 (nI (g pr))) (q + 1 + 1 + pr) 1 (nI v)) (q + 1 + 1 + pr) 2 (nI (Fs g (g 23) pr))) (q + 1 + 1 + pr) 3 0) q 4 (nI (Fs g (g 23) pr + g pr * v))) q 1 (nI (pr + 1))) q 1 = nI (pr + 1) := up_eq _ _ _ _
            have hh0 : ∀ c x, (c = 0 ∧ x = nI (g pr)) ∨ (c = 1 ∧ x = nI v) ∨ (c = 2 ∧ x = nI (Fs g (g 23) pr)) ∨ (c = 3 ∧ x = 0) → (up (up (up (up (up σ 1 2 (nI j2)) (q + 1 + 1 + pr) 0 (nI (g pr))) (q + 1 + 1 + pr) 1 (nI v)) (q + 1 + 1 + pr) 2 (nI (Fs g (g 23) pr))) (q + 1 + 1 + pr) 3 0) (q + 1 + 1 + pr) c = x := by
              intro c x hcx
              rcases hcx with ⟨rfl, rfl⟩ | ⟨rfl, rfl⟩ | ⟨rfl, rfl⟩ | ⟨rfl, rfl⟩
              · rw [up_ne _ _ (by omega), up_ne _ _ (by omega), up_ne _ _ (by omega), up_eq]
              · rw [up_ne _ _ (by omega), up_ne _ _ (by omega), up_eq]
              · rw [up_ne _ _ (by omega), up_eq]
              · rw [up_eq]
            generalize hσ : (up (up (up (up (up (up (up σ 1 2 (nI j2)) (q + 1 + 1 + pr) 0 (nI (g pr))) (q + 1 + 1 + pr) 1 (nI v)) (q + 1 + 1 + pr) 2 (nI (Fs g (g 23) pr))) (q + 1 + 1 + pr) 3 0) q 4 (nI (Fs g (g 23) pr + g pr * v))) q 1 (nI (pr + 1))) = σ3 at *
            have n22 : un g (6 + 6 * g 23 + pr) v 22 = g 22 := un_ne (by omega)
            have n23 : un g (6 + 6 * g 23 + pr) v 23 = g 23 := un_ne (by omega)
            have eF : ∀ p, p ≤ pr → Fs (un g (6 + 6 * g 23 + pr) v) (g 23) p = Fs g (g 23) p := fun p hp => Fs_cg p (fun o ho => ⟨un_ne (by omega), un_ne (by omega)⟩)
            have hSI : SI σ3 (up (up τ 0 2 (nI j2)) 3 (6 + 6 * g 23 + pr) (nI v)) D len j2 (pr + 1) tx (un g (6 + 6 * g 23 + pr) v) := by
              refine ⟨hD, T.cg ef3 hD9, M.cg g2, by omega, a1, by rw [up_ne _ _ (by omega), up_eq], ?_, RD_un (RD_sp Rd _) _ _, ⟨?_, VM_un V (by omega) (by omega)⟩, by rw [n23]; exact hk, by rw [n22]; omega, ?_⟩
              · refine (PL_un ?_ V.1 (by omega) (by omega))
                refine ⟨?_, ?_, ?_, fun p hp => ?_, fun s hs => ?_⟩
                · rw [row D (by omega) (by omega) (by omega)]; exact L.1
                · rw [row D (by omega) (by omega) (by omega)]; exact L.2.1
                · rw [row D (by omega) (by omega) (by omega)]; exact L.2.2.1
                · rw [row (D + 1) (by omega) (by omega) (by omega)]; exact L.2.2.2.1 p hp
                · exact (L.2.2.2.2 s hs).cg h4 (fun k b1 b2 => row k (by omega) (by omega) (by omega))
              · refine ⟨by rw [n22]; exact h4, by rw [n23]; exact V.1.2.1, by rw [un_ne (by omega)]; exact V.1.2.2.1, fun p hp => ?_, fun s hs => ⟨?_, ?_, fun p hp => ?_⟩⟩
                · rw [un_ne (by omega)]; exact V.1.2.2.2.1 p hp
                · rw [un_ne (by omega)]; exact (V.1.2.2.2.2 s hs).1
                · rw [un_ne (by omega)]; exact (V.1.2.2.2.2 s hs).2.1
                · by_cases ei : 6 + 6 * s + p = 6 + 6 * g 23 + pr
                  · rw [ei, un_eq]; omega
                  · rw [un_ne ei]; exact (V.1.2.2.2.2 s hs).2.2 p hp
              · rw [n23, hq, aq 2 (by decide) (by decide), aq 3 (by decide) (by decide), a4, h1q, un_ne (by omega), un_ne (by omega)]
                refine ⟨rfl, q2, q3, ?_, fun p hp => ?_⟩
                · show _ = nI (Fs (un g (6 + 6 * g 23 + pr) v) (g 23) pr + (un g (6 + 6 * g 23 + pr) v) pr * (un g (6 + 6 * g 23 + pr) v) (6 + 6 * g 23 + pr))
                  rw [eF pr (Nat.le_refl _), un_eq, un_ne (by omega)]
                · by_cases ep : p = pr
                  · subst ep
                    unfold HS
                    rw [ah, un_ne (by omega), un_eq, eF p (Nat.le_refl _)]
                    exact ⟨hh0 0 _ (Or.inl ⟨rfl, rfl⟩), hh0 1 _ (Or.inr (Or.inl ⟨rfl, rfl⟩)), hh0 2 _ (Or.inr (Or.inr (Or.inl ⟨rfl, rfl⟩))), hh0 3 _ (Or.inr (Or.inr (Or.inr ⟨rfl, rfl⟩)))⟩
                  · have H := (qh p (by omega)).cg (row (q + 1 + 1 + p) (by omega) (by omega) (by omega))
                    exact ⟨by rw [un_ne (by omega)]; exact H.1, by rw [un_ne (by omega)]; exact H.2.1, by rw [eF p (by omega)]; exact H.2.2.1, H.2.2.2⟩
            obtain ⟨σ', τ', b, b', r1, r2, r3⟩ := ih (m2 + 1) (pr + 1) j2 σ3 (up (up τ 0 2 (nI j2)) 3 (6 + 6 * g 23 + pr) (nI v)) (un g (6 + 6 * g 23 + pr) v) hSI n22 n23 (by omega) (by omega)
            exact ⟨σ', τ', b, b', r1, r2, r3.tr ef3 g2 (by omega)⟩
      · rw [c_skF T h12 hj (by decide) ec, bs, if_pos bIf, decide_eq_false ec, if_pos bIf, f135]
        unfold f_X6_readSeries_96
        rw [ft, bs, r440, if_pos bIf]
        exact ⟨_, _, _, _, rfl, rfl, IR.no FC.rf (g1.tr (FM.rd _ _))⟩
