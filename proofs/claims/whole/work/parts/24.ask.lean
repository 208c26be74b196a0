/-! the questions: class and reference answer alike -/
theorem r_m4 (n : Nat) (hn : n < 2 ^ 30) : rng (-4) 0 (nI n - 1) = false := by
  cases h : rng (-4) 0 (nI n - 1) with
  | false => rfl
  | true =>
    obtain ⟨j, h1, h2⟩ := rng_ex hn h
    exact absurd h2.symm (nI_m4 (by omega))
theorem rl {x : Int32} {b : Nat} {z : Int32} (hz : z = nI b) (hb : b < 2 ^ 30) (h : rng x 0 z = true) : ∃ j, j ≤ b ∧ x = nI j := by
  obtain ⟨j, -, h2, h3⟩ := rng_el (a := 0) (b := b) rfl hz (by decide) hb h
  exact ⟨j, h2, h3⟩
section AQ
variable {σ τ : Me} {P : Nat} {g h : Nat → Nat}
theorem RQ.eP (Q : RQ σ τ P g h) : (σ 0 3).toNatClampNeg = P := by rw [Q.2.1, nI_clamp (kd_bd (by rw [Q.1]; decide))]
theorem m_isN (Q : RQ σ τ P g h) {s : Nat} (hs : s < g 23) (x : Int32) : f_X8_isNumber τ (nI s) x = some (rng x 0 (nI (Fs g s (g 22)) - 1)) := by
  have h3 := Q.2.2.1.1.2.1
  unfold f_X8_isNumber
  rw [m_isS Q.2.2.2.2.1, bs, rng_t hs (by omega), if_neg bIt, m_whole Q.2.2.2.2.1 (by omega) Q.2.2.1.1.1, bs, fi0, bs]
  cases rng x 0 (nI (Fs g s (g 22)) - 1) with
  | false => rw [if_pos bIf]
  | true => rw [if_neg bIt]
theorem m_isNN (Q : RQ σ τ P g h) {x1 x : Int32} (hr : rng x1 0 (nI (g 23) - 1) = false) : f_X8_isNumber τ x1 x = some false := by
  unfold f_X8_isNumber
  rw [m_isS Q.2.2.2.2.1, bs, hr, if_pos bIf]
theorem c_hasNum (Q : RQ σ τ P g h) {s : Nat} (hs : s < g 23) (x : Int32) : f_X3_hasNumber σ (P + 2 + 1 + 6 * s) x = some (rng x 0 (nI (Fs g s (g 22)) - 1)) := by
  unfold f_X3_hasNumber
  rw [(Q.2.2.2.2.2.2.1.2.2.2.2 s hs).2.2.2.1, ft]; rfl
theorem m_chIn (Q : RQ σ τ P g h) {s v : Nat} (hs : s < g 23) (hv : v < 1000) : f_X8_checkIn τ (nI s) (nI v) = some (nI (ck (g (5 + 6 * s)) (g (4 + 6 * s)) (v / 100) (v / 10 % 10) (v % 10))) := by
  have h3 := Q.2.2.1.1.2.1
  have T := Q.2.2.2.2.1
  have b := Q.2.2.1.1.2.2.2.2 s (by omega)
  unfold f_X8_checkIn
  rw [u6, a4, p1, gd_i (by omega) (by decide), gd_i (by omega) (by decide), nI_clamp (by omega), nI_clamp (by omega), T _ (by omega), T _ (by omega), show 4 + 6 * s + 1 = 5 + 6 * s by omega, chOf b.2.1 b.1 hv]
  rfl
theorem c_ofNum (Q : RQ σ τ P g h) {s v : Nat} (hs : s < g 23) (hv : v < 1000) : f_X1_ofNumber (σ (P + 2 + 1 + 6 * s) 3) (σ (P + 2 + 1 + 6 * s) 2) (nI v) = some (nI (ck (g (5 + 6 * s)) (g (4 + 6 * s)) (v / 100) (v / 10 % 10) (v % 10))) := by
  have h3 := Q.2.2.1.1.2.1
  have b := Q.2.2.1.1.2.2.2.2 s (by omega)
  have E := Q.2.2.2.2.2.2.1.2.2.2.2 s hs
  rw [E.2.1, E.2.2.1, ofNum b.2.1 b.1 hv]
theorem q_series (Q : RQ σ τ P g h) (x1 x2 : Int32) : ∃ r, f_X7_series σ x1 x2 = some r ∧ f_X8_series τ x1 x2 = some r := by
  obtain ⟨hk, h03, V, H, T, S, L, R⟩ := id Q
  have h3 := V.1.2.1
  unfold f_X7_series f_X8_series
  rw [Q.eP, gd_d hk, m_isS T, bs]
  cases hr : rng x1 0 (nI (g 23) - 1) with
  | false => rw [c_serAtN L.2.1 hr, bs, oc_n, if_pos bIf]; exact ⟨_, rfl, rfl⟩
  | true =>
    obtain ⟨s, hs, rfl⟩ := rng_ex (by omega) hr
    have E := L.2.2.2.2 s hs
    rw [c_serAt L.2.1 V.1.2.1 hs, bs, oc_s, gd_d (kd_S hk (by omega)), if_neg bIt, fi x2 0 7 (by decide) (by decide), bs]
    by_cases e0 : x2 = 0
    · have hR : rng x2 0 7 = true := by rw [e0]; decide
      simp only [hR, if_neg bIt, if_pos e0]
      refine ⟨_, rfl, ?_⟩
      rw [e0, u6, a4, p0, gd_i (by omega) (by decide), nI_clamp (by omega), T _ (by omega), E.2.1]
    by_cases e1 : x2 = 1
    · have hR : rng x2 0 7 = true := by rw [e1]; decide
      simp only [hR, if_neg bIt, if_neg e0, if_pos e1]
      refine ⟨_, rfl, ?_⟩
      rw [e1, u6, a4, p1, gd_i (by omega) (by decide), nI_clamp (by omega), T _ (by omega), E.2.2.1, show 4 + 6 * s + 1 = 5 + 6 * s by omega]
    by_cases e2 : x2 = 2
    · have hR : rng x2 0 7 = true := by rw [e2]; decide
      simp only [hR, if_neg bIt, if_neg e0, if_neg e1, if_pos e2]
      rw [m_whole T (by omega) V.1.1, E.2.2.2.1]
      exact ⟨_, rfl, rfl⟩
    by_cases e3 : x2 = 3
    · have hR : rng x2 0 7 = true := by rw [e3]; decide
      simp only [hR, if_neg bIt, if_neg e0, if_neg e1, if_neg e2, if_pos e3]
      rw [c_notes E V.1.1, m_notes T S (by omega) V.1.1]
      exact ⟨_, rfl, rfl⟩
    by_cases e4 : x2 = 4
    · have hR : rng x2 0 7 = true := by rw [e4]; decide
      simp only [hR, if_neg bIt, if_neg e0, if_neg e1, if_neg e2, if_neg e3, if_pos e4]
      rw [c_sp R (h99 V.1 H) H.2.2.2 (by omega), m_sp S (h99 V.1 H) H.2.2.2 (by omega)]
      exact ⟨_, rfl, rfl⟩
    by_cases e5 : x2 = 5
    · have hR : rng x2 0 7 = true := by rw [e5]; decide
      have h4 := V.1.1
      simp only [hR, if_neg bIt, if_neg e0, if_neg e1, if_neg e2, if_neg e3, if_neg e4, if_pos e5]
      rw [c_left E V.1.1 (fun p hp => H.2.1 s (by omega) p (by omega)), m_left T S (by omega) V.1.1 (fun p hp => H.2.1 s (by omega) p (by omega))]
      exact ⟨_, rfl, rfl⟩
    by_cases e6 : x2 = 6
    · have hR : rng x2 0 7 = true := by rw [e6]; decide
      simp only [hR, if_neg bIt, if_neg e0, if_neg e1, if_neg e2, if_neg e3, if_neg e4, if_neg e5, if_pos e6]
      rw [c_packs Q hs, m_packs Q hs]
      exact ⟨_, rfl, rfl⟩
    by_cases e7 : x2 = 7
    · have hR : rng x2 0 7 = true := by rw [e7]; decide
      simp only [hR, if_neg bIt, if_neg e0, if_neg e1, if_neg e2, if_neg e3, if_neg e4, if_neg e5, if_neg e6, if_pos e7]
      obtain ⟨c, -, h5, h6⟩ := wholes_rel Q hs
      rw [h5, h6]
      exact ⟨_, rfl, rfl⟩
    simp only [if_neg e0, if_neg e1, if_neg e2, if_neg e3, if_neg e4, if_neg e5, if_neg e6, if_neg e7]
    cases hq : rng x2 0 7 with
    | false => simp only [if_pos bIf]; exact ⟨_, rfl, rfl⟩
    | true =>
      obtain ⟨j, h5, rfl⟩ := rl (b := 7) rfl (by decide) hq
      rcases (show j = 0 ∨ j = 1 ∨ j = 2 ∨ j = 3 ∨ j = 4 ∨ j = 5 ∨ j = 6 ∨ j = 7 by omega) with rfl | rfl | rfl | rfl | rfl | rfl | rfl | rfl
      · exact absurd rfl e0
      · exact absurd rfl e1
      · exact absurd rfl e2
      · exact absurd rfl e3
      · exact absurd rfl e4
      · exact absurd rfl e5
      · exact absurd rfl e6
      · exact absurd rfl e7
theorem q_share (Q : RQ σ τ P g h) (x1 x2 x3 : Int32) : ∃ r, f_X7_share σ x1 x2 x3 = some r ∧ f_X8_share τ x1 x2 x3 = some r := by
  obtain ⟨hk, h03, V, H, T, S, L, R⟩ := id Q
  have h3 := V.1.2.1
  have h4 := V.1.1
  unfold f_X7_share f_X8_share
  rw [Q.eP, gd_d hk, m_isS T, bs]
  cases hr : rng x1 0 (nI (g 23) - 1) with
  | false => rw [c_shPN1 L hr, bs, oc_n, if_pos bIf]; exact ⟨_, rfl, rfl⟩
  | true =>
    obtain ⟨s, hs, rfl⟩ := rng_ex (by omega) hr
    have E := L.2.2.2.2 s hs
    rw [if_neg bIt, m_isP T, bs]
    cases hr2 : rng x2 0 (nI (g 22) - 1) with
    | false => rw [c_shPN2 L V.1 hk hs hr2, bs, oc_n, if_pos bIf]; exact ⟨_, rfl, rfl⟩
    | true =>
      obtain ⟨p, hp, rfl⟩ := rng_ex (by omega) hr2
      have Hs := E.2.2.2.2 p hp
      rw [c_shP L V.1 hk hs hp, bs, oc_s, gd_d (kd_H (kd_S hk (by omega)) (by omega)), if_neg bIt, fi x3 0 3 (by decide) (by decide), bs]
      by_cases e0 : x3 = 0
      · have hR : rng x3 0 3 = true := by rw [e0]; decide
        simp only [hR, if_neg bIt, if_pos e0]
        rw [m_sheets T (by omega) (by omega), Hs.2.1]
        exact ⟨_, rfl, rfl⟩
      by_cases e1 : x3 = 1
      · have hR : rng x3 0 3 = true := by rw [e1]; decide
        simp only [hR, if_neg bIt, if_neg e0, if_pos e1]
        refine ⟨_, rfl, ?_⟩
        rw [u4, nI_add, gd_i (by omega) (by decide), nI_clamp (by omega), S _ (by omega), Hs.2.2.2]
      by_cases e2 : x3 = 2
      · have hR : rng x3 0 3 = true := by rw [e2]; decide
        simp only [hR, if_neg bIt, if_neg e0, if_neg e1, if_pos e2]
        rw [m_first T (by omega) (by omega), Hs.2.2.1]
        exact ⟨_, rfl, rfl⟩
      by_cases e3 : x3 = 3
      · have hR : rng x3 0 3 = true := by rw [e3]; decide
        simp only [hR, if_neg bIt, if_neg e0, if_neg e1, if_neg e2, if_pos e3]
        refine ⟨_, rfl, ?_⟩
        rw [gd_i (by omega) (by decide), nI_clamp (by omega), T _ (by omega), Hs.1]
      simp only [if_neg e0, if_neg e1, if_neg e2, if_neg e3]
      cases hq : rng x3 0 3 with
      | false => simp only [if_pos bIf]; exact ⟨_, rfl, rfl⟩
      | true =>
        obtain ⟨j, h5, rfl⟩ := rl (b := 3) rfl (by decide) hq
        rcases (show j = 0 ∨ j = 1 ∨ j = 2 ∨ j = 3 by omega) with rfl | rfl | rfl | rfl
        · exact absurd rfl e0
        · exact absurd rfl e1
        · exact absurd rfl e2
        · exact absurd rfl e3
theorem q_where (Q : RQ σ τ P g h) (x1 x2 x3 : Int32) : ∃ r, f_X7_where σ x1 x2 x3 = some r ∧ f_X8_where τ x1 x2 x3 = some r := by
  obtain ⟨hk, h03, V, H, T, S, L, R⟩ := id Q
  have h3 := V.1.2.1
  have h4 := V.1.1
  unfold f_X7_where f_X8_where
  rw [Q.eP, gd_d hk]
  cases hr : rng x1 0 (nI (g 23) - 1) with
  | false => rw [c_serAtN L.2.1 hr, bs, oc_n, m_isNN Q hr, bs, if_pos bIf]; exact ⟨_, rfl, rfl⟩
  | true =>
    obtain ⟨s, hs, rfl⟩ := rng_ex (by omega) hr
    have E := L.2.2.2.2 s hs
    have hM := (V.2 s hs).2
    rw [c_serAt L.2.1 V.1.2.1 hs, bs, oc_s, gd_d (kd_S hk (by omega)), m_isN Q hs, bs]
    cases hr2 : rng x2 0 (nI (Fs g s (g 22)) - 1) with
    | false => rw [c_pressN E V hs hr2, bs, c_shAtN E.1 (r_m4 _ (by omega)), bs, oc_n, if_pos bIf]; exact ⟨_, rfl, rfl⟩
    | true =>
      obtain ⟨v, hv, rfl⟩ := rng_ex (by omega) hr2
      obtain ⟨p, hp, h1, h2⟩ := Fs_ex g s hv
      have Hs := E.2.2.2.2 p hp
      rw [c_press E V.1 (by omega) hp h1 h2, bs, c_shAt E.1 V.1.1 hp, bs, oc_s, gd_d (kd_H (kd_S hk (by omega)) (by omega)), if_neg bIt, fi x3 0 2 (by decide) (by decide), bs, m_press T V.1 (by omega) (by omega) h1 h2, bs]
      by_cases e0 : x3 = 0
      · have hR : rng x3 0 2 = true := by rw [e0]; decide
        simp only [hR, if_neg bIt, if_pos e0]
        exact ⟨_, rfl, rfl⟩
      by_cases e1 : x3 = 1
      · have hR : rng x3 0 2 = true := by rw [e1]; decide
        simp only [hR, if_neg bIt, if_neg e0, if_pos e1]
        rw [c_sheetOf Hs V.1 (by omega) (by omega) h1 h2, m_sheetOf T V.1 (by omega) (by omega) h1 h2]
        exact ⟨_, rfl, rfl⟩
      by_cases e2 : x3 = 2
      · have hR : rng x3 0 2 = true := by rw [e2]; decide
        have hc := sh_pos h1 h2
        have hd := (V.1.2.2.2.2 s (by omega)).2.2 p (by omega)
        simp only [hR, if_neg bIt, if_neg e0, if_neg e1, if_pos e2]
        rw [c_placeOf Hs V.1 (by omega) (by omega) h1 h2, m_first T (by omega) (by omega), bs, m_sheets T (by omega) (by omega), bs, bs, gd_d (nI_ne0 hc (by omega)), pk_sub h1, pk_div (by omega) hc (by omega)]
        exact ⟨_, rfl, rfl⟩
      simp only [if_neg e0, if_neg e1, if_neg e2]
      cases hq : rng x3 0 2 with
      | false => simp only [if_pos bIf]; exact ⟨_, rfl, rfl⟩
      | true =>
        obtain ⟨j, h5, rfl⟩ := rl (b := 2) rfl (by decide) hq
        rcases (show j = 0 ∨ j = 1 ∨ j = 2 by omega) with rfl | rfl | rfl
        · exact absurd rfl e0
        · exact absurd rfl e1
        · exact absurd rfl e2
theorem q_number (Q : RQ σ τ P g h) (x1 x2 x3 x4 : Int32) : ∃ r, f_X7_number σ x1 x2 x3 x4 = some r ∧ f_X8_number τ x1 x2 x3 x4 = some r := by
  obtain ⟨hk, h03, V, H, T, S, L, R⟩ := id Q
  have h3 := V.1.2.1
  have h4 := V.1.1
  have n0 : f_X8_number_57 τ x1 x2 x3 x4 = some (-1) := by
    unfold f_X8_number_57 f_X8_number_58; rw [if_pos rfl]
  unfold f_X7_number f_X8_number
  rw [Q.eP, gd_d hk, m_isS T, bs, n0]
  cases hr : rng x1 0 (nI (g 23) - 1) with
  | false => rw [c_shPN1 L hr, bs, oc_n, if_pos bIf]; exact ⟨_, rfl, rfl⟩
  | true =>
    obtain ⟨s, hs, rfl⟩ := rng_ex (by omega) hr
    have E := L.2.2.2.2 s hs
    rw [if_neg bIt, m_isP T, bs]
    cases hr2 : rng x2 0 (nI (g 22) - 1) with
    | false => rw [c_shPN2 L V.1 hk hs hr2, bs, oc_n, if_pos bIf]; exact ⟨_, rfl, rfl⟩
    | true =>
      obtain ⟨p, hp, rfl⟩ := rng_ex (by omega) hr2
      have Hs := E.2.2.2.2 p hp
      have hd := (V.1.2.2.2.2 s (by omega)).2.2 p (by omega)
      rw [c_shP L V.1 hk hs hp, bs, oc_s, gd_d (kd_H (kd_S hk (by omega)) (by omega)), if_neg bIt, m_sheets T (by omega) (by omega), bs, fi0, bs]
      unfold f_X4_hasSheet
      rw [Hs.2.1, ft, bs, bs]
      cases hr3 : rng x3 0 (nI (g (6 + 6 * s + p)) - 1) with
      | false => rw [if_pos bIf, if_pos bIf]; exact ⟨_, rfl, rfl⟩
      | true =>
        rw [if_neg bIt, if_neg bIt, gd_i (by omega) (by decide), nI_clamp (by omega), T _ (by omega), fi0, bs, Hs.1, ft, bs]
        cases hr4 : rng x4 0 (nI (g p) - 1) with
        | false => rw [if_pos bIf, if_pos bIf]; exact ⟨_, rfl, rfl⟩
        | true =>
          rw [if_neg bIt, if_neg bIt]
          unfold f_X4_numberAt f_X8_number_58 f_X8_numberAt
          rw [Hs.2.1, Hs.2.2.1, if_neg (show ¬ (1 : Int32) = 0 by decide), m_first T (by omega) (by omega), bs, m_sheets T (by omega) (by omega), bs]
          exact ⟨_, rfl, rfl⟩
theorem q_check (Q : RQ σ τ P g h) (x1 x2 : Int32) : ∃ r, f_X7_check σ x1 x2 = some r ∧ f_X8_check τ x1 x2 = some r := by
  obtain ⟨hk, h03, V, H, T, S, L, R⟩ := id Q
  have h3 := V.1.2.1
  unfold f_X7_check f_X8_check
  rw [Q.eP, gd_d hk, m_isS T, bs]
  cases hr : rng x1 0 (nI (g 23) - 1) with
  | false => rw [c_serAtN L.2.1 hr, bs, oc_n, if_pos bIf]; exact ⟨_, rfl, rfl⟩
  | true =>
    obtain ⟨s, hs, rfl⟩ := rng_ex (by omega) hr
    rw [c_serAt L.2.1 V.1.2.1 hs, bs, oc_s, gd_d (kd_S hk (by omega)), if_neg bIt, ft, bs, fi x2 0 999 (by decide) (by decide), bs]
    cases hr2 : rng x2 0 999 with
    | false => rw [if_pos bIf, if_pos bIf]; exact ⟨_, rfl, rfl⟩
    | true =>
      obtain ⟨v, hv, rfl⟩ := rl (b := 999) rfl (by decide) hr2
      rw [if_neg bIt, if_neg bIt, c_ofNum Q hs (by omega), m_chIn Q hs (by omega)]
      exact ⟨_, rfl, rfl⟩
theorem q_note (Q : RQ σ τ P g h) (x1 x2 : Int32) : ∃ r, f_X7_note σ x1 x2 = some r ∧ f_X8_note τ x1 x2 = some r := by
  obtain ⟨hk, h03, V, H, T, S, L, R⟩ := id Q
  have h3 := V.1.2.1
  unfold f_X7_note f_X8_note
  rw [Q.eP, gd_d hk]
  cases hr : rng x1 0 (nI (g 23) - 1) with
  | false => rw [c_serAtN L.2.1 hr, bs, oc_n, m_isNN Q hr, bs, if_pos bIf]; exact ⟨_, rfl, rfl⟩
  | true =>
    obtain ⟨s, hs, rfl⟩ := rng_ex (by omega) hr
    have hM := (V.2 s hs).2
    rw [c_serAt L.2.1 V.1.2.1 hs, bs, oc_s, gd_d (kd_S hk (by omega)), m_isN Q hs, bs, c_hasNum Q hs, bs]
    cases hr2 : rng x2 0 (nI (Fs g s (g 22)) - 1) with
    | false => rw [if_pos bIf, if_pos bIf]; exact ⟨_, rfl, rfl⟩
    | true =>
      obtain ⟨v, hv, rfl⟩ := rng_ex (by omega) hr2
      obtain ⟨b, e1, e2⟩ := isPr_rel Q hs hv
      rw [if_neg bIt, if_neg bIt, e1, e2, bs, bs]
      cases b with
      | false => rw [if_pos bIf, if_pos bIf]; exact ⟨_, rfl, rfl⟩
      | true =>
        rw [if_neg bIt, if_neg bIt, c_stands R (h99 V.1 H) H.2.2.2 (by omega) (by omega), m_star S (h99 V.1 H) H.2.2.2 (by omega) (by omega), bs, bs]
        by_cases e : sA h (1000 * s + v) = -4
        · rw [decide_eq_false (fun q => q e), if_pos bIf, if_pos e]; exact ⟨_, rfl, rfl⟩
        · rw [decide_eq_true e, if_neg bIt, if_neg e]; exact ⟨_, rfl, rfl⟩
theorem q_starOf (Q : RQ σ τ P g h) (x1 x2 : Int32) : ∃ r, f_X7_starOf σ x1 x2 = some r ∧ f_X8_starOf τ x1 x2 = some r := by
  obtain ⟨hk, h03, V, H, T, S, L, R⟩ := id Q
  have h3 := V.1.2.1
  unfold f_X7_starOf f_X8_starOf
  rw [Q.eP, gd_d hk]
  cases hr : rng x1 0 (nI (g 23) - 1) with
  | false => rw [c_serAtN L.2.1 hr, bs, oc_n, m_isNN Q hr, bs, if_pos bIf]; exact ⟨_, rfl, rfl⟩
  | true =>
    obtain ⟨s, hs, rfl⟩ := rng_ex (by omega) hr
    have hM := (V.2 s hs).2
    rw [c_serAt L.2.1 V.1.2.1 hs, bs, oc_s, gd_d (kd_S hk (by omega)), m_isN Q hs, bs, c_hasNum Q hs, bs]
    cases hr2 : rng x2 0 (nI (Fs g s (g 22)) - 1) with
    | false => rw [if_pos bIf, if_pos bIf]; exact ⟨_, rfl, rfl⟩
    | true =>
      obtain ⟨v, hv, rfl⟩ := rng_ex (by omega) hr2
      rw [if_neg bIt, if_neg bIt, c_star R (h99 V.1 H) H.2.2.2 (by omega) (by omega), m_star S (h99 V.1 H) H.2.2.2 (by omega) (by omega)]
      exact ⟨_, rfl, rfl⟩
theorem q_star (Q : RQ σ τ P g h) (x1 x2 : Int32) : ∃ r, f_X7_star σ x1 x2 = some r ∧ f_X8_star τ x1 x2 = some r := by
  obtain ⟨hk, h03, V, H, T, S, L, R⟩ := id Q
  have h9 := V.1.2.2.1
  have hu := h99 V.1 H
  unfold f_X7_star f_X8_star
  rw [R.1, ft, bs, T 24 (by decide), fi0, bs]
  cases hr : rng x1 0 (nI (g 24) - 1) with
  | false => rw [if_pos bIf, if_pos bIf]; exact ⟨_, rfl, rfl⟩
  | true =>
    obtain ⟨i, hi, rfl⟩ := rng_ex (by omega) hr
    rw [if_neg bIt, if_neg bIt, fi x2 0 2 (by decide) (by decide), bs, S 111 (by decide), if_lt (by omega) (by omega)]
    have cs : f_X5_seriesOf σ (nI i) = some (if i < h 111 then nI (h (12 + i) / 1000) else -4) := by
      unfold f_X5_seriesOf
      rw [R.2.1, ft, bs]
      by_cases e : i < h 111
      · rw [rng_t e (by omega), if_neg bIt, gd_i (by omega) (by decide), nI_clamp (by omega), (R.2.2 i e).1, if_pos e]
      · have : rng (nI i) 0 (nI (h 111) - 1) = false := by
          cases hq : rng (nI i) 0 (nI (h 111) - 1) with
          | false => rfl
          | true =>
            obtain ⟨j, h1, h2⟩ := rng_ex (by omega) hq
            have := (nI_eq (by omega) (by omega)).mp h2
            omega
        rw [this, if_pos bIf, if_neg e]
    have cn : f_X5_numberOf σ (nI i) = some (if i < h 111 then nI (h (12 + i) % 1000) else -4) := by
      unfold f_X5_numberOf
      rw [R.2.1, ft, bs]
      by_cases e : i < h 111
      · rw [rng_t e (by omega), if_neg bIt, gd_i (by omega) (by decide), nI_clamp (by omega), (R.2.2 i e).2, if_pos e]
      · have : rng (nI i) 0 (nI (h 111) - 1) = false := by
          cases hq : rng (nI i) 0 (nI (h 111) - 1) with
          | false => rfl
          | true =>
            obtain ⟨j, h1, h2⟩ := rng_ex (by omega) hq
            have := (nI_eq (by omega) (by omega)).mp h2
            omega
        rw [this, if_pos bIf, if_neg e]
    by_cases e0 : x2 = 0
    · have hR : rng x2 0 2 = true := by rw [e0]; decide
      have e2 : ¬ x2 = 2 := by rw [e0]; decide
      simp only [hR, if_neg bIt, if_pos e0, if_neg e2]
      rw [cs]
      by_cases e : i < h 111
      · have hb := H.2.2.2 i e
        rw [if_pos e, if_pos e, a12, gd_i (by omega) (by decide), nI_clamp (by omega), S _ (by omega), d1000 (by omega)]
        exact ⟨_, rfl, rfl⟩
      · rw [if_neg e, if_neg e]; exact ⟨_, rfl, rfl⟩
    by_cases e1 : x2 = 1
    · have hR : rng x2 0 2 = true := by rw [e1]; decide
      have e2 : ¬ x2 = 2 := by rw [e1]; decide
      simp only [hR, if_neg bIt, if_neg e0, if_pos e1, if_neg e2]
      rw [cn]
      by_cases e : i < h 111
      · have hb := H.2.2.2 i e
        rw [if_pos e, if_pos e, a12, gd_i (by omega) (by decide), nI_clamp (by omega), S _ (by omega), m1000 (by omega)]
        exact ⟨_, rfl, rfl⟩
      · rw [if_neg e, if_neg e]; exact ⟨_, rfl, rfl⟩
    by_cases e2 : x2 = 2
    · have hR : rng x2 0 2 = true := by rw [e2]; decide
      simp only [hR, if_neg bIt, if_neg e0, if_neg e1, if_pos e2]
      have hc := chOf (k := 1) (l := 0) (v := i) (by decide) (by decide) (by omega)
      rw [ofStar (by omega), show (0 : Int32) = nI 0 from rfl, show (1 : Int32) = nI 1 from rfl, hc]
      exact ⟨_, rfl, rfl⟩
    simp only [if_neg e0, if_neg e1, if_neg e2]
    cases hq : rng x2 0 2 with
    | false => simp only [if_pos bIf]; exact ⟨_, rfl, rfl⟩
    | true =>
      obtain ⟨j, h5, rfl⟩ := rl (b := 2) rfl (by decide) hq
      rcases (show j = 0 ∨ j = 1 ∨ j = 2 by omega) with rfl | rfl | rfl
      · exact absurd rfl e0
      · exact absurd rfl e1
      · exact absurd rfl e2
end AQ
