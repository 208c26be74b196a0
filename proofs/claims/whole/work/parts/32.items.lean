/-! items: presses, stars, series -/
def un (g : Nat → Nat) (j v : Nat) : Nat → Nat := fun i => if i = j then v else g i
theorem un_eq {g : Nat → Nat} {j v : Nat} : un g j v j = v := by simp [un]
theorem un_ne {g : Nat → Nat} {j v i : Nat} (h : i ≠ j) : un g j v i = g i := by simp [un, h]
def RD (τ : Me) (g : Nat → Nat) : Prop := ∀ j, j < 25 → τ 3 j = nI (g j)
theorem RD_un {τ : Me} {g : Nat → Nat} (h : RD τ g) (j v : Nat) : RD (up τ 3 j (nI v)) (un g j v) := by
  intro q hq
  by_cases e : q = j
  · rw [e, up_eq, un_eq]
  · rw [up_ne _ _ (by omega), un_ne e]; exact h q hq
theorem RD_sp {τ : Me} {g : Nat → Nat} (h : RD τ g) (v : Int32) : RD (up τ 0 2 v) g := fun q hq => by rw [up_oth _ _ _ (by decide)]; exact h q hq
theorem Fs_cg {g g' : Nat → Nat} {s : Nat} : ∀ p, (∀ o, o < p → g' o = g o ∧ g' (6 + 6 * s + o) = g (6 + 6 * s + o)) → Fs g' s p = Fs g s p := by
  intro p
  induction p with
  | zero => intro _; rfl
  | succ p ih =>
    intro h
    show Fs g' s p + g' p * g' (6 + 6 * s + p) = Fs g s p + g p * g (6 + 6 * s + p)
    rw [ih (fun o ho => h o (by omega)), (h p (by omega)).1, (h p (by omega)).2]
/-- a plan read so far, and numbers of a series to come -/
theorem PL_un {σ : Me} {D : Nat} {g rn : Nat → Nat} (L : PL σ D g rn) (V : VB g) {j v : Nat} (h1 : 4 + 6 * g 23 ≤ j) (h2 : j < 22) : PL σ D (un g j v) rn := by
  have h3 := V.2.1
  have h4 := V.1
  have e22 : un g j v 22 = g 22 := un_ne (by omega)
  have e23 : un g j v 23 = g 23 := un_ne (by omega)
  have e24 : un g j v 24 = g 24 := un_ne (by omega)
  refine ⟨by rw [e22]; exact L.1, by rw [e23]; exact L.2.1, by rw [e24]; exact L.2.2.1, fun p hp => ?_, fun s hs => ?_⟩
  · rw [e22] at hp; rw [un_ne (by omega)]; exact L.2.2.2.1 p hp
  · rw [e23] at hs
    have E := L.2.2.2.2 s hs
    have eF : ∀ p, p ≤ 4 → Fs (un g j v) s p = Fs g s p := fun p hp => Fs_cg p (fun o ho => ⟨un_ne (by omega), un_ne (by omega)⟩)
    refine ⟨by rw [e22]; exact E.1, by rw [un_ne (by omega)]; exact E.2.1, by rw [un_ne (by omega)]; exact E.2.2.1, by rw [e22, eF _ h4]; exact E.2.2.2.1, fun p hp => ?_⟩
    rw [e22] at hp
    have H := E.2.2.2.2 p hp
    exact ⟨by rw [un_ne (by omega)]; exact H.1, by rw [un_ne (by omega)]; exact H.2.1, by rw [eF p (by omega)]; exact H.2.2.1, H.2.2.2⟩
theorem VM_un {g : Nat → Nat} (V : VG g) {j v : Nat} (h1 : 4 + 6 * g 23 ≤ j) (h2 : j < 22) : ∀ s, s < un g j v 23 → 1 ≤ Fs (un g j v) s (un g j v 22) ∧ Fs (un g j v) s (un g j v 22) ≤ 999 := by
  have h3 := V.1.2.1
  have h4 := V.1.1
  intro s hs
  rw [un_ne (by omega)] at hs
  rw [un_ne (show 22 ≠ j by omega), Fs_cg (g' := un g j v) _ (fun o ho => ⟨un_ne (by omega), un_ne (by omega)⟩)]
  exact V.2 s hs
def IR (σ τ σ' τ' : Me) (D len i : Nat) (tx : Nat → Nat) (b b' : Bool) : Prop := FC σ σ' D ∧ FM τ τ' ∧ (b' = false → b = false) ∧ (b' = true → ∃ (j : Nat) (gN : Nat → Nat), i ≤ j ∧ j ≤ len ∧ τ' 0 2 = nI j ∧ b = decide (j < len ∧ tx j = 59) ∧ (b = true → σ' 1 2 = nI (j + 1) ∧ PL σ' D gN (fun _ => 0) ∧ RD τ' gN ∧ VG gN))
theorem IR.no {σ τ σ' τ' : Me} {D len i : Nat} {tx : Nat → Nat} (h1 : FC σ σ' D) (h2 : FM τ τ') : IR σ τ σ' τ' D len i tx false false := ⟨h1, h2, fun _ => rfl, fun h => by cases h⟩
theorem c_adP {σ : Me} {D np : Nat} (h2 : σ D 2 = nI np) (h3 : σ D 3 = nI 0) (h4 : np < 4) (x : Int32) : f_X2_addPress σ D x = some (up (up σ (D + 1) np x) D 2 (nI (np + 1)), true) := by
  unfold f_X2_addPress
  rw [h2, h3, if_neg (show ¬ ((4 : Int32) ≤ nI np) from fun q => by have := (nI_leI (a := 4) (by decide) (by omega)).mp q; omega), if_pos (show nI 0 ≤ (0 : Int32) by decide), gd_i h4 (by decide), nI_clamp (by omega), up_ne _ _ (by omega), h2, p1]
theorem c_adPN {σ : Me} {D np ns : Nat} (h2 : σ D 2 = nI np) (h3 : σ D 3 = nI ns) (hb : np ≤ 4) (hb3 : ns ≤ 3) (h : np = 4 ∨ 0 < ns) (x : Int32) : f_X2_addPress σ D x = some (σ, false) := by
  unfold f_X2_addPress
  rw [h2, h3]
  by_cases e : np = 4
  · rw [if_pos (show (4 : Int32) ≤ nI np by rw [e]; decide)]
  · rw [if_neg (show ¬ ((4 : Int32) ≤ nI np) from fun q => by have := (nI_leI (a := 4) (by decide) (by omega)).mp q; omega), if_neg (show ¬ (nI ns ≤ (0 : Int32)) from nI_nle (by omega) (by omega))]
def PS (σ τ : Me) (D len i : Nat) (tx g : Nat → Nat) : Prop := kd D = 9 ∧ TC σ len tx ∧ TM τ len tx ∧ i ≤ len ∧ σ 1 2 = nI i ∧ PL σ D g (fun _ => 0) ∧ RD τ g ∧ VG g
theorem r48 : rng (-4) 1 8 = false := by decide
theorem r499 : rng (-4) 0 99 = false := by decide
theorem r42 : rng (-4) 0 2 = false := by decide
theorem r440 : rng (-4) 0 40 = false := by decide
theorem D9 {D : Nat} (h : kd D = 9) : 9 ≤ D := by rcases kd9 h with e | e <;> omega
theorem it_p {σ τ : Me} {D len i : Nat} {tx g : Nat → Nat} (S : PS σ τ D len i tx g) (h2 : τ 0 2 = nI (i + 1)) (hi : i < len) (hc : tx i = 112) : ∃ σ' τ' b b', f_X6_readItem σ D = some (σ', b) ∧ f_X8_item τ (nI 112) = some (τ', b') ∧ IR σ τ σ' τ' D len (i + 1) tx b b' := by
  obtain ⟨hD, TC0, TM0, hil, h12, L, Rd, V⟩ := S
  have hD9 := D9 hD
  have hl := TC0.1
  have h3 := V.1.2.1
  have h4 := V.1.1
  have T1 : TC (up σ 1 2 (nI (i + 1))) len tx := TC0.cg (FC.at (D := D) _ hD9) hD9
  have f1 : FC σ (up σ 1 2 (nI (i + 1))) D := FC.at _ hD9
  have ri : f_X6_readItem σ D = (f_X6_readPress (up σ 1 2 (nI (i + 1))) D).bind fun p10 => some (p10.1, p10.2) := by
    unfold f_X6_readItem
    rw [show (112 : Int32) = nI 112 from rfl, c_skT TC0 h12 hi hc, bs, if_neg bIt]
  rw [ri]
  have mi : f_X8_item τ (nI 112) = if τ 3 22 = 4 then some (τ, false) else if τ 3 23 ≤ 0 then ((f_X8_number2 (up τ 3 22 ((τ 3 22) + 1)) (((up τ 3 22 ((τ 3 22) + 1)) 3 22) - 1) 1 8).bind fun p9 => some (p9.1, p9.2)) else some (τ, false) := by
    unfold f_X8_item
    rw [if_pos (show nI 112 = (112 : Int32) from rfl)]
  rw [mi, Rd 22 (by decide), Rd 23 (by decide)]
  unfold f_X6_readPress
  by_cases hA : g 22 = 4 ∨ 0 < g 23
  · have hm : (if nI (g 22) = 4 then some (τ, false) else if nI (g 23) ≤ 0 then ((f_X8_number2 (up τ 3 22 (nI (g 22) + 1)) (((up τ 3 22 (nI (g 22) + 1)) 3 22) - 1) 1 8).bind fun p9 => some (p9.1, p9.2)) else some (τ, false)) = some (τ, false) := by
      by_cases e : g 22 = 4
      · rw [if_pos (show nI (g 22) = (4 : Int32) by rw [e]; rfl)]
      · rw [if_neg (show ¬ (nI (g 22) = (4 : Int32)) from fun q => e ((nI_eq (b := 4) (by omega) (by decide)).mp q)), if_neg (show ¬ (nI (g 23) ≤ (0 : Int32)) from nI_nle (by omega) (by omega))]
    rw [hm]
    cases hn : nm tx len (i + 1) with
    | none =>
      rw [c_numN T1 (up_eq _ _ _ _) (by omega) hn, bs, ft, bs, r48, if_pos bIf]
      exact ⟨_, _, _, _, rfl, rfl, IR.no f1 FM.rf⟩
    | some vj =>
      obtain ⟨v, j⟩ := vj
      have hv := nm_some hn
      rw [c_numS T1 (up_eq _ _ _ _) hn, bs, ft, bs, up_up]
      have f2 : FC σ (up σ 1 2 (nI j)) D := FC.at _ hD9
      have T2 : TC (up σ 1 2 (nI j)) len tx := TC0.cg f2 hD9
      cases rng (nI v) 1 8 with
      | false => rw [if_pos bIf]; exact ⟨_, _, _, _, rfl, rfl, IR.no f2 FM.rf⟩
      | true =>
        rw [if_neg bIt, show (59 : Int32) = nI 59 from rfl]
        by_cases e : j < len ∧ tx j = 59
        · have f3 : FC σ (up (up σ 1 2 (nI j)) 1 2 (nI (j + 1))) D := f2.tr (FC.at _ hD9)
          rw [c_skT T2 (up_eq _ _ _ _) e.1 e.2, bs, if_neg bIt]
          dsimp only
          rw [c_adPN (np := g 22) (ns := g 23) (by rw [up_ne _ _ (by omega), up_ne _ _ (by omega)]; exact L.1) (by rw [up_ne _ _ (by omega), up_ne _ _ (by omega)]; exact L.2.1) h4 h3 hA, bs, if_pos bIf]
          exact ⟨_, _, _, _, rfl, rfl, IR.no f3 FM.rf⟩
        · rw [c_skF T2 (up_eq _ _ _ _) (by omega) (by decide) e, bs, if_pos bIf]
          exact ⟨_, _, _, _, rfl, rfl, IR.no f2 FM.rf⟩
  · have e4 : g 22 < 4 := by omega
    have e0 : g 23 = 0 := by omega
    rw [if_neg (show ¬ (nI (g 22) = (4 : Int32)) from fun q => by have := (nI_eq (b := 4) (by omega) (by decide)).mp q; omega), if_pos (show nI (g 23) ≤ (0 : Int32) by rw [e0]; decide), up_eq, p1, show nI (g 22 + 1) - 1 = nI (g 22) from pk_sub (a := g 22 + 1) (b := 1) (by omega)]
    have g1 : FM τ (up τ 3 22 (nI (g 22 + 1))) := FM.rd _ _
    have M1 : TM (up τ 3 22 (nI (g 22 + 1))) len tx := TM0.cg g1
    cases hn : nm tx len (i + 1) with
    | none =>
      rw [c_numN T1 (up_eq _ _ _ _) (by omega) hn, bs, ft, bs, r48, if_pos bIf, m_numN M1 (i := i + 1) (by rw [up_ne _ _ (by omega)]; exact h2) (by omega) (by omega) _ _ hn]
      exact ⟨_, _, _, _, rfl, rfl, IR.no f1 (g1.tr (FM.rd _ _))⟩
    | some vj =>
      obtain ⟨v, j⟩ := vj
      have hv := nm_some hn
      rw [c_numS T1 (up_eq _ _ _ _) hn, bs, ft, bs, up_up, m_numS M1 (i := i + 1) (by rw [up_ne _ _ (by omega)]; exact h2) (by omega) _ _ hn, bs]
      have f2 : FC σ (up σ 1 2 (nI j)) D := FC.at _ hD9
      have T2 : TC (up σ 1 2 (nI j)) len tx := TC0.cg f2 hD9
      have g2 : FM τ (up (up (up τ 3 22 (nI (g 22 + 1))) 0 2 (nI j)) 3 (g 22) (nI v)) := (g1.tr (FM.sp _)).tr (FM.rd _ _)
      cases hr : rng (nI v) 1 8 with
      | false => rw [if_pos bIf]; exact ⟨_, _, _, _, rfl, rfl, IR.no f2 g2⟩
      | true =>
        obtain ⟨v', hv1, hv2, hv3⟩ := rng_el (a := 1) (b := 8) rfl rfl (by decide) (by decide) hr
        have hvv := (nI_eq (by omega) (by omega)).mp hv3
        rw [if_neg bIt, show (59 : Int32) = nI 59 from rfl]
        have t02 : (up (up (up τ 3 22 (nI (g 22 + 1))) 0 2 (nI j)) 3 (g 22) (nI v)) 0 2 = nI j := by rw [up_ne _ _ (by omega), up_eq]
        by_cases e : j < len ∧ tx j = 59
        · have f3 : FC σ (up (up (up (up σ 1 2 (nI j)) 1 2 (nI (j + 1))) (D + 1) (g 22) (nI v)) D 2 (nI (g 22 + 1))) D := ((f2.tr (FC.at _ hD9)).tr (FC.pl _ _ (by omega) (by omega) hD9)).tr (FC.pl _ _ (by omega) (by omega) hD9)
          rw [c_skT T2 (up_eq _ _ _ _) e.1 e.2, bs, if_neg bIt]
          dsimp only
          rw [c_adP (np := g 22) (by rw [up_ne _ _ (by omega), up_ne _ _ (by omega)]; exact L.1) (by rw [up_ne _ _ (by omega), up_ne _ _ (by omega), ← e0]; exact L.2.1) e4, bs, if_neg bIt]
          dsimp only [Option.bind]
          refine ⟨_, _, _, _, rfl, rfl, f3, g2, (fun h => by cases h), fun _ => ⟨j, un (un g 22 (g 22 + 1)) (g 22) v, by omega, by omega, t02, (decide_eq_true e).symm, fun _ => ⟨?_, ?_, ?_, ?_⟩⟩⟩
          · rw [up_ne _ _ (by omega), up_ne _ _ (by omega), up_eq]
          · have n22 : un (un g 22 (g 22 + 1)) (g 22) v 22 = g 22 + 1 := by rw [un_ne (by omega), un_eq]
            have n23 : un (un g 22 (g 22 + 1)) (g 22) v 23 = 0 := by rw [un_ne (by omega), un_ne (by decide), e0]
            have n24 : un (un g 22 (g 22 + 1)) (g 22) v 24 = g 24 := by rw [un_ne (by omega), un_ne (by decide)]
            refine ⟨by rw [n22, up_eq], ?_, ?_, fun p hp => ?_, fun s hs => by rw [n23] at hs; omega⟩
            · rw [n23, up_ne _ _ (by omega), up_ne _ _ (by omega), up_ne _ _ (by omega), up_ne _ _ (by omega), ← e0]; exact L.2.1
            · rw [n24, up_ne _ _ (by omega), up_ne _ _ (by omega), up_ne _ _ (by omega), up_ne _ _ (by omega)]; exact L.2.2.1
            · rw [n22] at hp
              rw [up_ne _ _ (by omega)]
              by_cases ep : p = g 22
              · rw [ep, up_eq, un_eq]
              · rw [up_ne _ _ (by omega), up_ne _ _ (by omega), up_ne _ _ (by omega), un_ne ep, un_ne (by omega)]; exact L.2.2.2.1 p (by omega)
          · exact RD_un (RD_sp (RD_un Rd _ _) _) _ _
          · refine ⟨⟨?_, ?_, ?_, fun p hp => ?_, fun s hs => ⟨?_, ?_, fun p hp => ?_⟩⟩, fun s hs => ?_⟩
            · rw [un_ne (by omega), un_eq]; omega
            · rw [un_ne (by omega), un_ne (by decide)]; exact h3
            · rw [un_ne (by omega), un_ne (by decide)]; exact V.1.2.2.1
            · by_cases ep : p = g 22
              · rw [ep, un_eq]; omega
              · rw [un_ne ep, un_ne (by omega)]; exact V.1.2.2.2.1 p hp
            · rw [un_ne (by omega), un_ne (by omega)]; exact (V.1.2.2.2.2 s hs).1
            · rw [un_ne (by omega), un_ne (by omega)]; exact (V.1.2.2.2.2 s hs).2.1
            · rw [un_ne (by omega), un_ne (by omega)]; exact (V.1.2.2.2.2 s hs).2.2 p hp
            · rw [un_ne (by omega), un_ne (by decide), e0] at hs; omega
        · rw [c_skF T2 (up_eq _ _ _ _) (by omega) (by decide) e, bs, if_pos bIf]
          exact ⟨_, _, _, _, rfl, rfl, f2, g2, fun _ => rfl, fun _ => ⟨j, g, by omega, by omega, t02, (decide_eq_false e).symm, fun h => by cases h⟩⟩
theorem it_z {σ τ : Me} {D len i : Nat} {tx g : Nat → Nat} (S : PS σ τ D len i tx g) (h2 : τ 0 2 = nI (i + 1)) (hi : i < len) (hc : tx i = 122) : ∃ σ' τ' b b', f_X6_readItem σ D = some (σ', b) ∧ f_X8_item τ (nI 122) = some (τ', b') ∧ IR σ τ σ' τ' D len (i + 1) tx b b' := by
  obtain ⟨hD, TC0, TM0, hil, h12, L, Rd, V⟩ := S
  have hD9 := D9 hD
  have hl := TC0.1
  have f1 : FC σ (up σ 1 2 (nI (i + 1))) D := FC.at _ hD9
  have T1 : TC (up σ 1 2 (nI (i + 1))) len tx := TC0.cg f1 hD9
  unfold f_X6_readItem f_X8_item
  rw [show (112 : Int32) = nI 112 from rfl, show (115 : Int32) = nI 115 from rfl, show (122 : Int32) = nI 122 from rfl, show (24 : Int32) = nI 24 from rfl, c_skF TC0 h12 hil (by decide) (by omega), bs, if_pos bIf, c_skF TC0 h12 hil (by decide) (by omega), bs, if_pos bIf, c_skT TC0 h12 hi hc, bs, if_neg bIt, if_neg (show ¬ (nI 122 = nI 112) by decide), if_neg (show ¬ (nI 122 = nI 115) by decide), if_pos rfl]
  unfold f_X6_readStars
  cases hn : nm tx len (i + 1) with
  | none =>
    rw [c_numN T1 (up_eq _ _ _ _) (by omega) hn, bs, ft, bs, r499, if_pos bIf, bs, if_pos bIf, m_numN TM0 h2 (by omega) (by decide) _ _ hn]
    exact ⟨_, _, _, _, rfl, rfl, IR.no f1 (FM.rd _ _)⟩
  | some vj =>
    obtain ⟨v, j⟩ := vj
    have hv := nm_some hn
    rw [c_numS T1 (up_eq _ _ _ _) hn, bs, ft, bs, up_up, m_numS TM0 h2 (by decide) _ _ hn, bs, rng_tl (y := 0) (z := 99) (a := 0) (b := 99) rfl rfl (by omega) hv.1 (by decide), if_neg bIt, show (59 : Int32) = nI 59 from rfl]
    have f2 : FC σ (up σ 1 2 (nI j)) D := FC.at _ hD9
    have T2 : TC (up σ 1 2 (nI j)) len tx := TC0.cg f2 hD9
    have g2 : FM τ (up (up τ 0 2 (nI j)) 3 24 (nI v)) := (FM.sp _).tr (FM.rd _ _)
    have t02 : (up (up τ 0 2 (nI j)) 3 24 (nI v)) 0 2 = nI j := by rw [up_ne _ _ (by omega), up_eq]
    by_cases e : j < len ∧ tx j = 59
    · rw [c_skT T2 (up_eq _ _ _ _) e.1 e.2, bs, if_neg bIt, bs, if_neg bIt]
      dsimp only [Option.bind]
      refine ⟨_, _, _, _, rfl, rfl, (f2.tr (FC.at _ hD9)).tr (FC.pl _ _ (by omega) (by omega) hD9), g2, (fun h => by cases h), fun _ => ⟨j, un g 24 v, by omega, by omega, t02, (decide_eq_true e).symm, fun _ => ⟨?_, ?_, ?_, ?_⟩⟩⟩
      · rw [up_ne _ _ (by omega), up_eq]
      · have h3 := V.1.2.1
        have h4 := V.1.1
        have L2 : PL (up (up (up σ 1 2 (nI j)) 1 2 (nI (j + 1))) D 4 (nI v)) D (un g 24 v) (fun _ => 0) := by
          have e22 : un g 24 v 22 = g 22 := un_ne (by decide)
          have e23 : un g 24 v 23 = g 23 := un_ne (by decide)
          refine ⟨?_, ?_, by rw [up_eq, un_eq], fun p hp => ?_, fun s hs => ?_⟩
          · rw [e22, up_ne _ _ (by omega), up_ne _ _ (by omega), up_ne _ _ (by omega)]; exact L.1
          · rw [e23, up_ne _ _ (by omega), up_ne _ _ (by omega), up_ne _ _ (by omega)]; exact L.2.1
          · rw [e22] at hp
            rw [un_ne (by omega), up_ne _ _ (by omega), up_ne _ _ (by omega), up_ne _ _ (by omega)]; exact L.2.2.2.1 p hp
          · rw [e23] at hs
            have E := L.2.2.2.2 s hs
            have eF : ∀ p, p ≤ 4 → Fs (un g 24 v) s p = Fs g s p := fun p hp => Fs_cg p (fun o ho => ⟨un_ne (by omega), un_ne (by omega)⟩)
            have er : ∀ k, D < k → (up (up (up σ 1 2 (nI j)) 1 2 (nI (j + 1))) D 4 (nI v)) k = σ k := fun k hk => by rw [up_oth _ _ _ (by omega), up_oth _ _ _ (by omega), up_oth _ _ _ (by omega)]
            refine SE.cg (σ := σ) ⟨by rw [e22]; exact E.1, by rw [un_ne (by omega)]; exact E.2.1, by rw [un_ne (by omega)]; exact E.2.2.1, by rw [e22, eF _ h4]; exact E.2.2.2.1, fun p hp => ?_⟩ (by rw [e22]; exact h4) (fun k q1 q2 => er k (by omega))
            rw [e22] at hp
            have H := E.2.2.2.2 p hp
            exact ⟨by rw [un_ne (by omega)]; exact H.1, by rw [un_ne (by omega)]; exact H.2.1, by rw [eF p (by omega)]; exact H.2.2.1, H.2.2.2⟩
        exact L2
      · exact RD_un (RD_sp Rd _) _ _
      · have h3 := V.1.2.1
        have h4 := V.1.1
        refine ⟨⟨?_, ?_, by rw [un_eq]; exact hv.1, fun p hp => ?_, fun s hs => ⟨?_, ?_, fun p hp => ?_⟩⟩, fun s hs => ?_⟩
        · rw [un_ne (by decide)]; exact h4
        · rw [un_ne (by decide)]; exact h3
        · rw [un_ne (by omega)]; exact V.1.2.2.2.1 p hp
        · rw [un_ne (by omega)]; exact (V.1.2.2.2.2 s hs).1
        · rw [un_ne (by omega)]; exact (V.1.2.2.2.2 s hs).2.1
        · rw [un_ne (by omega)]; exact (V.1.2.2.2.2 s hs).2.2 p hp
        · rw [un_ne (by decide)] at hs
          rw [un_ne (show 22 ≠ 24 by decide), Fs_cg (g' := un g 24 v) _ (fun o ho => ⟨un_ne (by omega), un_ne (by omega)⟩)]
          exact V.2 s hs
    · rw [c_skF T2 (up_eq _ _ _ _) (by omega) (by decide) e, bs, if_pos bIf, bs, if_pos bIf]
      exact ⟨_, _, _, _, rfl, rfl, f2, g2, fun _ => rfl, fun _ => ⟨j, g, by omega, by omega, t02, (decide_eq_false e).symm, fun h => by cases h⟩⟩
theorem it_o {σ τ : Me} {D len i : Nat} {tx g : Nat → Nat} (S : PS σ τ D len i tx g) (hi : i < len) (h1 : tx i ≠ 112) (h3 : tx i ≠ 115) (h4 : tx i ≠ 122) : ∃ σ' τ' b b', f_X6_readItem σ D = some (σ', b) ∧ f_X8_item τ (nI (tx i)) = some (τ', b') ∧ IR σ τ σ' τ' D len (i + 1) tx b b' := by
  obtain ⟨hD, TC0, TM0, hil, h12, L, Rd, V⟩ := S
  have hb := (TC0.2.2 i hi).2
  unfold f_X6_readItem f_X8_item
  rw [show (112 : Int32) = nI 112 from rfl, show (115 : Int32) = nI 115 from rfl, show (122 : Int32) = nI 122 from rfl, c_skF TC0 h12 hil (by decide) (by omega), bs, if_pos bIf, c_skF TC0 h12 hil (by decide) (by omega), bs, if_pos bIf, c_skF TC0 h12 hil (by decide) (by omega), bs, if_pos bIf, if_eq (by omega) (by decide), if_neg h1, if_eq (by omega) (by decide), if_neg h3, if_eq (by omega) (by decide), if_neg h4]
  exact ⟨_, _, _, _, rfl, rfl, IR.no FC.rf FM.rf⟩
