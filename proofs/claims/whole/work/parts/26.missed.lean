theorem ring1 (a d i b : Int32) : a + d * b + (i - d) * b = a + i * b := by grind
section MI
variable {σ τ : Me} {P : Nat} {g h : Nat → Nat}
def ckv (g : Nat → Nat) (s w : Nat) : Nat := ck (g (5 + 6 * s)) (g (4 + 6 * s)) (w / 100) (w / 10 % 10) (w % 10)
theorem ckv_lt (Q : RQ σ τ P g h) {s w : Nat} (hs : s < g 23) (hw : w < 1000) : ckv g s w < 11 := by
  have h3 := Q.2.2.1.1.2.1
  exact ck_lt (Q.2.2.1.1.2.2.2.2 s (by omega)).2.1 (by omega) (by omega) (by omega)
theorem mi168 (Q : RQ σ τ P g h) {K : Me → Int32 → Int32 → Int32 → Int32 → Int32 → Option Int32} {s v b d : Nat} (hs : s < g 23) (hb0 : 0 < b) (hb : b ≤ 100) (hd : v / b % 10 = d) (hle : d * b ≤ v) (hv : v < 1000) (hw : ∀ i, i < 10 → v - d * b + i * b < 1000) (hi : ∀ i, i < 10 → (v - d * b + i * b = v ↔ i = d)) (Pp : Nat → Bool) (hP : ∀ i, i < 10 → Pp i = (decide (i ≠ d) && decide (ckv g s (v - d * b + i * b) = ckv g s v))) :
    ∀ n i c, i ≤ 10 → 10 - i < n → f_X8_missed_168 K n τ (nI s) (nI v) (nI (ckv g s v)) (nI (c + cnt Pp i)) (nI b) (nI i) = K τ (nI s) (nI v) (nI (ckv g s v)) (nI (c + cnt Pp 10)) (nI b * 10) := by
  intro n
  induction n with
  | zero => intro i c h1 h2; omega
  | succ n ih =>
    intro i c h1 h2
    rw [f_X8_missed_168]
    by_cases e : i = 10
    · subst e; rw [if_pos (show (10 : Int32) ≤ nI 10 by decide)]
    · have hi10 : i < 10 := by omega
      have hdl : v / b ≤ v := Nat.div_le_self v b
      have hwi := hw i hi10
      have e1 : nI v + (nI i - nI d) * nI b = nI (v - d * b + i * b) := by
        have h5 : nI v = nI (v - d * b) + nI d * nI b := by
          rw [pk_mul, nI_add, Nat.sub_add_cancel hle]
        have := ring1 (nI (v - d * b)) (nI d) (nI i) (nI b)
        rw [← h5] at this
        rw [this, pk_mul, nI_add]
      rw [if_neg (show ¬ ((10 : Int32) ≤ nI i) from fun q => by have := (nI_leI (a := 10) (by decide) (by omega)).mp q; omega), gd_d (nI_ne0 hb0 (by omega)), pk_div (by omega) hb0 (by omega), m10 (by omega), hd, e1, if_eq (by omega) (by omega), m_chIn Q hs hwi, bs, p0, p1, p1]
      have fin := ih (i + 1) c (by omega) (by omega)
      have ec : cnt Pp (i + 1) = cnt Pp i + (if Pp i then 1 else 0) := rfl
      rw [ec, hP i hi10] at fin
      have b1 := ckv_lt Q hs hwi
      have b2 := ckv_lt Q hs hv
      by_cases e2 : v - d * b + i * b = v
      · rw [if_pos e2]
        have : i = d := (hi i hi10).mp e2
        rw [decide_eq_false (fun q => q this)] at fin
        exact fin
      · rw [if_neg e2]
        have e3 : i ≠ d := fun q => e2 ((hi i hi10).mpr q)
        rw [decide_eq_true e3] at fin
        show (if nI (ckv g s (v - d * b + i * b)) = nI (ckv g s v) then _ else _) = _
        rw [if_eq (by omega) (by omega)]
        by_cases e4 : ckv g s (v - d * b + i * b) = ckv g s v
        · rw [if_pos e4]
          rw [decide_eq_true e4] at fin
          have fin : f_X8_missed_168 K n τ (nI s) (nI v) (nI (ckv g s v)) (nI (c + (cnt Pp i + 1))) (nI b) (nI (i + 1)) = _ := fin
          rw [← Nat.add_assoc] at fin
          exact fin
        · rw [if_neg e4]
          rw [decide_eq_false e4] at fin
          exact fin
theorem q_missed (Q : RQ σ τ P g h) (x1 x2 x3 : Int32) : ∃ r, f_X7_missed σ x1 x2 x3 = some r ∧ f_X8_missed τ x1 x2 x3 = some r := by
  obtain ⟨hk, h03, V, H, T, S, L, R⟩ := id Q
  have h3 := V.1.2.1
  unfold f_X7_missed f_X8_missed
  rw [Q.eP, gd_d hk, m_isS T, bs]
  cases hr : rng x1 0 (nI (g 23) - 1) with
  | false => rw [c_serAtN L.2.1 hr, bs, oc_n, if_pos bIf]; exact ⟨_, rfl, rfl⟩
  | true =>
    obtain ⟨s, hs, rfl⟩ := rng_ex (by omega) hr
    have E := L.2.2.2.2 s hs
    have bb := V.1.2.2.2.2 s (by omega)
    rw [c_serAt L.2.1 V.1.2.1 hs, bs, oc_s, gd_d (kd_S hk (by omega)), if_neg bIt, ft, bs, fi x2 0 999 (by decide) (by decide), bs]
    cases hr2 : rng x2 0 999 with
    | false => rw [if_pos bIf, if_pos bIf]; exact ⟨_, rfl, rfl⟩
    | true =>
      obtain ⟨v, hv, rfl⟩ := rl (b := 999) rfl (by decide) hr2
      rw [if_neg bIt, if_neg bIt, fi x3 0 1 (by decide) (by decide), bs, m_chIn Q hs (by omega), bs, E.2.1, E.2.2.1, missF bb.2.1 bb.1 (by omega), missS bb.2.1 bb.1 (by omega), bs, bs]
      by_cases e0 : x3 = 0
      · have hR : rng x3 0 1 = true := by rw [e0]; decide
        have e1 : ¬ x3 = 1 := by rw [e0]; decide
        simp only [hR, if_neg bIt, if_pos e0, if_neg e1]
        refine ⟨_, rfl, ?_⟩
        have hx : v / 100 < 10 := by omega
        have hy : v / 10 % 10 < 10 := Nat.mod_lt _ (by decide)
        have hz : v % 10 < 10 := Nat.mod_lt _ (by decide)
        have key : ∀ n, f_X8_missed_157 (n + 4) τ (nI s) (nI v) (nI (ckv g s v)) (nI (0 + cnt (fun _ => false) 0)) (nI 1) = some (nI (cnt (Px (g (5 + 6 * s)) (g (4 + 6 * s)) (v / 100) (v / 10 % 10) (v % 10)) 10 + cnt (Py (g (5 + 6 * s)) (g (4 + 6 * s)) (v / 100) (v / 10 % 10) (v % 10)) 10 + cnt (Pz (g (5 + 6 * s)) (g (4 + 6 * s)) (v / 100) (v / 10 % 10) (v % 10)) 10)) := by
          intro n
          have i1 := fun (K : Me → Int32 → Int32 → Int32 → Int32 → Int32 → Option Int32) (c : Nat) => mi168 Q (K := K) (s := s) (v := v) (b := 1) (d := v % 10) hs (by decide) (by decide) (by omega) (by omega) (by omega) (fun i hi => by omega) (fun i hi => by omega) (Pz (g (5 + 6 * s)) (g (4 + 6 * s)) (v / 100) (v / 10 % 10) (v % 10)) (fun i hi => by
            unfold Pz ckv
            rw [show (v - v % 10 * 1 + i * 1) / 100 = v / 100 by omega, show (v - v % 10 * 1 + i * 1) / 10 % 10 = v / 10 % 10 by omega, show (v - v % 10 * 1 + i * 1) % 10 = i by omega]) 1000 0 c (by decide) (by decide)
          have i2 := fun (K : Me → Int32 → Int32 → Int32 → Int32 → Int32 → Option Int32) (c : Nat) => mi168 Q (K := K) (s := s) (v := v) (b := 10) (d := v / 10 % 10) hs (by decide) (by decide) (by omega) (by omega) (by omega) (fun i hi => by omega) (fun i hi => by omega) (Py (g (5 + 6 * s)) (g (4 + 6 * s)) (v / 100) (v / 10 % 10) (v % 10)) (fun i hi => by
            unfold Py ckv
            rw [show (v - v / 10 % 10 * 10 + i * 10) / 100 = v / 100 by omega, show (v - v / 10 % 10 * 10 + i * 10) / 10 % 10 = i by omega, show (v - v / 10 % 10 * 10 + i * 10) % 10 = v % 10 by omega]) 1000 0 c (by decide) (by decide)
          have i3 := fun (K : Me → Int32 → Int32 → Int32 → Int32 → Int32 → Option Int32) (c : Nat) => mi168 Q (K := K) (s := s) (v := v) (b := 100) (d := v / 100) hs (by decide) (by decide) (by omega) (by omega) (by omega) (fun i hi => by omega) (fun i hi => by omega) (Px (g (5 + 6 * s)) (g (4 + 6 * s)) (v / 100) (v / 10 % 10) (v % 10)) (fun i hi => by
            unfold Px ckv
            rw [show (v - v / 100 * 100 + i * 100) / 100 = i by omega, show (v - v / 100 * 100 + i * 100) / 10 % 10 = v / 10 % 10 by omega, show (v - v / 100 * 100 + i * 100) % 10 = v % 10 by omega]) 1000 0 c (by decide) (by decide)
          rw [f_X8_missed_157, if_neg (show ¬ ((1000 : Int32) ≤ nI 1) by decide)]
          refine (i1 (f_X8_missed_157 (n + 3)) 0).trans ?_
          rw [show nI 1 * 10 = nI 10 from rfl, f_X8_missed_157, if_neg (show ¬ ((1000 : Int32) ≤ nI 10) by decide)]
          refine (i2 (f_X8_missed_157 (n + 2)) (0 + cnt (Pz (g (5 + 6 * s)) (g (4 + 6 * s)) (v / 100) (v / 10 % 10) (v % 10)) 10)).trans ?_
          rw [show nI 10 * 10 = nI 100 from rfl, f_X8_missed_157, if_neg (show ¬ ((1000 : Int32) ≤ nI 100) by decide)]
          refine (i3 (f_X8_missed_157 (n + 1)) (0 + cnt (Pz (g (5 + 6 * s)) (g (4 + 6 * s)) (v / 100) (v / 10 % 10) (v % 10)) 10 + cnt (Py (g (5 + 6 * s)) (g (4 + 6 * s)) (v / 100) (v / 10 % 10) (v % 10)) 10)).trans ?_
          rw [show nI 100 * 10 = nI 1000 from rfl, f_X8_missed_157, if_pos (show ((1000 : Int32) ≤ nI 1000) by decide)]
          congr 2
          omega
        exact key 996
      by_cases e1 : x3 = 1
      · have hR : rng x3 0 1 = true := by rw [e1]; decide
        simp only [hR, if_neg bIt, if_neg e0, if_pos e1]
        refine ⟨_, rfl, ?_⟩
        have hx : v / 100 < 10 := by omega
        have hy : v / 10 % 10 < 10 := Nat.mod_lt _ (by decide)
        have hz : v % 10 < 10 := Nat.mod_lt _ (by decide)
        have k0 : ∀ w, w < 1000 → f_X8_checkIn τ (nI s) (nI w) = some (nI (ckv g s w)) := fun w hw => m_chIn Q hs hw
        have b2 := ckv_lt Q hs (show v < 1000 by omega)
        have eb : ∀ x y z, x < 10 → y < 10 → z < 10 → ckv g s (100 * x + 10 * y + z) = ck (g (5 + 6 * s)) (g (4 + 6 * s)) x y z := by
          intro x y z h1 h2 h3
          unfold ckv
          rw [show (100 * x + 10 * y + z) / 100 = x by omega, show (100 * x + 10 * y + z) / 10 % 10 = y by omega, show (100 * x + 10 * y + z) % 10 = z by omega]
        rw [d100 (by omega), m10 (v := v) (by omega), d10 (by omega), m10 (by omega)]
        have ev : ckv g s v = ck (g (5 + 6 * s)) (g (4 + 6 * s)) (v / 100) (v / 10 % 10) (v % 10) := rfl
        rw [← ev] at *
        have hb7 : ∀ (c1 c0 : Nat), f_X8_missed_107 τ (nI s) (nI (ckv g s v)) (nI (v / 100)) (nI (v / 10 % 10)) (nI (v % 10)) (nI c1) (nI c0) = some (nI (c0 + c1 + (if v / 10 % 10 ≠ v % 10 ∧ ck (g (5 + 6 * s)) (g (4 + 6 * s)) (v / 100) (v % 10) (v / 10 % 10) = ckv g s v then 1 else 0))) := by
          intro c1 c0
          unfold f_X8_missed_107
          have b3 := ckv_lt Q hs (show 100 * (v / 100) + 10 * (v % 10) + v / 10 % 10 < 1000 by omega)
          simp only [u100, u10, nI_add]
          rw [k0 _ (by omega), bs, p0, p1, if_eq (by omega) (by omega), if_eq (by omega) (by omega), eb _ _ _ hx hz hy]
          rw [eb _ _ _ hx hz hy] at b3
          by_cases e5 : v / 10 % 10 = v % 10
          · rw [if_pos e5]; simp [e5]
          · rw [if_neg e5]
            by_cases e6 : ck (g (5 + 6 * s)) (g (4 + 6 * s)) (v / 100) (v % 10) (v / 10 % 10) = ckv g s v
            · rw [if_pos e6, if_pos ⟨e5, e6⟩]
            · rw [if_neg e6, if_neg (fun q => e6 q.2), Nat.add_zero]
        have b4 := ckv_lt Q hs (show 100 * (v / 10 % 10) + 10 * (v / 100) + v % 10 < 1000 by omega)
        rw [u100, u10, nI_add, nI_add, k0 _ (by omega), bs, if_eq (by omega) (by omega), if_eq (by omega) (by omega), eb _ _ _ hy hx hz]
        rw [eb _ _ _ hy hx hz] at b4
        unfold f_X8_missed_106 sw
        have h00 : f_X8_missed_107 τ (nI s) (nI (ckv g s v)) (nI (v / 100)) (nI (v / 10 % 10)) (nI (v % 10)) 0 0 = _ := hb7 0 0
        have h10 : f_X8_missed_107 τ (nI s) (nI (ckv g s v)) (nI (v / 100)) (nI (v / 10 % 10)) (nI (v % 10)) 1 0 = _ := hb7 1 0
        rw [h00, h10]
        show _ = some (nI ((if v / 100 ≠ v / 10 % 10 ∧ ck (g (5 + 6 * s)) (g (4 + 6 * s)) (v / 10 % 10) (v / 100) (v % 10) = ckv g s v then 1 else 0) + (if v / 10 % 10 ≠ v % 10 ∧ ck (g (5 + 6 * s)) (g (4 + 6 * s)) (v / 100) (v % 10) (v / 10 % 10) = ckv g s v then 1 else 0)))
        generalize (if v / 10 % 10 ≠ v % 10 ∧ ck (g (5 + 6 * s)) (g (4 + 6 * s)) (v / 100) (v % 10) (v / 10 % 10) = ckv g s v then 1 else 0) = B
        by_cases e5 : v / 100 = v / 10 % 10
        · rw [if_pos e5, if_neg (fun q => q.1 e5)]
        · rw [if_neg e5]
          by_cases e6 : ck (g (5 + 6 * s)) (g (4 + 6 * s)) (v / 10 % 10) (v / 100) (v % 10) = ckv g s v
          · rw [if_pos e6, if_pos ⟨e5, e6⟩]
          · rw [if_neg e6, if_neg (fun q => e6 q.2)]
      simp only [if_neg e0, if_neg e1]
      cases hq : rng x3 0 1 with
      | false => simp only [if_pos bIf]; exact ⟨_, rfl, rfl⟩
      | true =>
        obtain ⟨j, h5, rfl⟩ := rl (b := 1) rfl (by decide) hq
        rcases (show j = 0 ∨ j = 1 by omega) with rfl | rfl
        · exact absurd rfl e0
        · exact absurd rfl e1
end MI
