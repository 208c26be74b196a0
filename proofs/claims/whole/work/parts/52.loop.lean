section LL
variable {p : Program} {l : Launch} {e : Env} {s : State} {m : MethodId} {args : Array Value} {below : List Frame} {meth : Method} {c : Code} {D : va_G} {cI cH cE cJ : ClassId} {a b : Nat → Nat} {nc ns : Nat} {Q : State → Prop} {σ τ : Me} {sb L i : Nat} {xs : Nat → Int32}
theorem and31 (x : Int32) : ∃ n, n < 32 ∧ x &&& 31 = nI n := by
  obtain ⟨n, hn, e⟩ := pk_andE x (m := 31) 5 (by decide)
  exact ⟨n, hn, e⟩
theorem law_sw (X : LX p s m args meth c D cI cH cE cJ a b sb L xs nc ns) (I : Inv σ τ) (hi : i + 5 ≤ L) (k : ∀ σ' τ', Inv σ' τ' → Gg p l e room_1 s m args below meth c D P0 (wz cI cH cE cJ a b) 4 nc ns Q (σ', τ') (LV a b sb i) 778 []) : ∀ n, n < 32 → Gg p l e room_1 s m args below meth c D P0 (wz cI cH cE cJ a b) 4 nc ns Q (σ, τ) (LV a b sb i) 32 [.int (nI n)] := by
  intro n hn
  match n, hn with
  | 0, _ => exact g_tabIn (pc := 32) X.1 128 dL_law_32 (by decide) (by decide) rfl (by decide) (k_0 X I hi k)
  | 1, _ => exact g_tabIn (pc := 32) X.1 151 dL_law_32 (by decide) (by decide) rfl (by decide) (k_1 X I hi k)
  | 2, _ => exact g_tabIn (pc := 32) X.1 164 dL_law_32 (by decide) (by decide) rfl (by decide) (k_2 X I hi k)
  | 3, _ => exact g_tabIn (pc := 32) X.1 177 dL_law_32 (by decide) (by decide) rfl (by decide) (k_3 X I hi k)
  | 4, _ => exact g_tabIn (pc := 32) X.1 190 dL_law_32 (by decide) (by decide) rfl (by decide) (k_4 X I hi k)
  | 5, _ => exact g_tabIn (pc := 32) X.1 233 dL_law_32 (by decide) (by decide) rfl (by decide) (k_5 X I hi k)
  | 6, _ => exact g_tabIn (pc := 32) X.1 266 dL_law_32 (by decide) (by decide) rfl (by decide) (k_6 X I hi k)
  | 7, _ => exact g_tabIn (pc := 32) X.1 309 dL_law_32 (by decide) (by decide) rfl (by decide) (k_7 X I hi k)
  | 8, _ => exact g_tabIn (pc := 32) X.1 322 dL_law_32 (by decide) (by decide) rfl (by decide) (k_8 X I hi k)
  | 9, _ => exact g_tabIn (pc := 32) X.1 355 dL_law_32 (by decide) (by decide) rfl (by decide) (k_9 X I hi k)
  | 10, _ => exact g_tabIn (pc := 32) X.1 398 dL_law_32 (by decide) (by decide) rfl (by decide) (k_10 X I hi k)
  | 11, _ => exact g_tabIn (pc := 32) X.1 441 dL_law_32 (by decide) (by decide) rfl (by decide) (k_11 X I hi k)
  | 12, _ => exact g_tabIn (pc := 32) X.1 494 dL_law_32 (by decide) (by decide) rfl (by decide) (k_12 X I hi k)
  | 13, _ => exact g_tabIn (pc := 32) X.1 527 dL_law_32 (by decide) (by decide) rfl (by decide) (k_13 X I hi k)
  | 14, _ => exact g_tabIn (pc := 32) X.1 570 dL_law_32 (by decide) (by decide) rfl (by decide) (k_14 X I hi k)
  | 15, _ => exact g_tabIn (pc := 32) X.1 603 dL_law_32 (by decide) (by decide) rfl (by decide) (k_15 X I hi k)
  | 16, _ => exact g_tabIn (pc := 32) X.1 636 dL_law_32 (by decide) (by decide) rfl (by decide) (k_16 X I hi k)
  | 17, _ => exact g_tabIn (pc := 32) X.1 669 dL_law_32 (by decide) (by decide) rfl (by decide) (k_17 X I hi k)
  | 18, _ => exact g_tabIn (pc := 32) X.1 712 dL_law_32 (by decide) (by decide) rfl (by decide) (k_18 X I hi k)
  | 19, _ => exact g_tabIn (pc := 32) X.1 755 dL_law_32 (by decide) (by decide) rfl (by decide) (k_19 X I hi k)
  | 20, _ => exact g_tabOut (pc := 32) X.1 778 dL_law_32 (by decide) (by decide) (k _ _ I)
  | 21, _ => exact g_tabOut (pc := 32) X.1 778 dL_law_32 (by decide) (by decide) (k _ _ I)
  | 22, _ => exact g_tabOut (pc := 32) X.1 778 dL_law_32 (by decide) (by decide) (k _ _ I)
  | 23, _ => exact g_tabOut (pc := 32) X.1 778 dL_law_32 (by decide) (by decide) (k _ _ I)
  | 24, _ => exact g_tabOut (pc := 32) X.1 778 dL_law_32 (by decide) (by decide) (k _ _ I)
  | 25, _ => exact g_tabOut (pc := 32) X.1 778 dL_law_32 (by decide) (by decide) (k _ _ I)
  | 26, _ => exact g_tabOut (pc := 32) X.1 778 dL_law_32 (by decide) (by decide) (k _ _ I)
  | 27, _ => exact g_tabOut (pc := 32) X.1 778 dL_law_32 (by decide) (by decide) (k _ _ I)
  | 28, _ => exact g_tabOut (pc := 32) X.1 778 dL_law_32 (by decide) (by decide) (k _ _ I)
  | 29, _ => exact g_tabOut (pc := 32) X.1 778 dL_law_32 (by decide) (by decide) (k _ _ I)
  | 30, _ => exact g_tabOut (pc := 32) X.1 778 dL_law_32 (by decide) (by decide) (k _ _ I)
  | 31, _ => exact g_tabOut (pc := 32) X.1 778 dL_law_32 (by decide) (by decide) (k _ _ I)
  | n + 32, h => omega
theorem law_loop (X : LX p s m args meth c D cI cH cE cJ a b sb L xs nc ns) (kE : ∀ i σ' τ', Gg p l e room_1 s m args below meth c D P0 (wz cI cH cE cJ a b) 4 nc ns Q (σ', τ') (LV a b sb i) 784 []) : ∀ n i σ τ, i ≤ L + 5 → L + 5 - i < n → Inv σ τ → Gg p l e room_1 s m args below meth c D P0 (wz cI cH cE cJ a b) 4 nc ns Q (σ, τ) (LV a b sb i) 18 [] := by
  have hL := X.2.2.2.2.2.2.1.2.2
  intro n
  induction n with
  | zero => intro i σ τ h1 h2; omega
  | succ n ih =>
    intro i σ τ h1 h2 I
    refine g_iload_n (pc := 18) X.1 dL_law_18 0 rfl rfl ?_
    refine g_aload_n (pc := 19) X.1 dL_law_19 3 rfl rfl ?_
    refine g_slen (pc := 20) X dL_law_20 ?_
    refine g_iconst (pc := 21) X.1 dL_law_21 ic_5 ?_
    refine g_isub (pc := 22) X.1 dL_law_22 ?_
    refine g_icmp_gt (pc := 23) X.1 784 dL_law_23 (by decide) (fun _ => kE _ _ _) (fun q => ?_)
    have hi : i + 5 ≤ L := by
      rcases Nat.lt_or_ge L 5 with h5 | h5
      · have key : ∀ l, l < 5 → nI l - 5 < 0 := by decide
        exact absurd (Int32.lt_of_lt_of_le (key L h5) (Int32.not_lt.mp (nI_pos (by omega)))) q
      · have e5 : nI L - 5 = nI (L - 5) := by
          have := nI_add (a := L - 5) (b := 5)
          rw [show L - 5 + 5 = L by omega] at this
          rw [← this, show nI 5 = (5 : Int32) from rfl]
          grind
        rw [e5] at q
        rcases Nat.lt_or_ge (L - 5) i with h6 | h6
        · exact absurd (nI_lt h6 (by omega)) q
        · omega
    refine g_aload_n (pc := 26) X.1 dL_law_26 3 rfl rfl ?_
    refine g_iload_n (pc := 27) X.1 dL_law_27 0 rfl rfl ?_
    refine g_sld (pc := 28) X (vp_in_nI (by omega) (by omega)) dL_law_28 ?_
    refine g_bipush (pc := 29) X.1 dL_law_29 (show (Int8.ofInt 31).toInt32 = 31 by decide) ?_
    refine g_iand (pc := 31) X.1 dL_law_31 ?_
    obtain ⟨t, ht, et⟩ := and31 (xs (nI i).toNatClampNeg)
    rw [et]
    refine law_sw X I hi (fun σ' τ' I' => ?_) t ht
    refine g_iinc (pc := 778) X.1 (LV a b sb (i + 5)) 0 dL_law_778 rfl (show Int32.ofInt 5 = 5 by decide) (by decide) (by unfold LV; rw [← show nI i + 5 = nI (i + 5) from nI_add (a := i) (b := 5)]; rfl) ?_
    exact g_goto (pc := 781) X.1 18 dL_law_781 (by decide) (ih (i + 5) σ' τ' (by omega) (by omega) I')
end LL
