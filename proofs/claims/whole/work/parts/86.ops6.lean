/-! start -/
def sRep (σ τ : JS) (d i : Nat) (σ1 : JS) : Prop := (∀ a, a ≠ 15 → σ1 a = σ a) ∧ ∀ f r : Nat, f < 3 → r < 8 → σ1 15 (8 * f + r) = if 8 * d < mlt τ (nI f) (nI r) i then mvl τ (nI f) (nI r) i else σ 16 (8 * f + r)
theorem H_rep_L (K : JS → Int32 → Option (Nat × Int32 × JS)) {σ τ : JS} {n c d : Nat} (hA : tA σ τ n c) (hn : n ≤ 120) (hc : c ≤ 3) : ∀ (e i fuel : Nat) (σ1 : JS), i + e = n → e < fuel → 8 * d ≤ i → sRep σ τ d i σ1 → ∃ σ2, mH_start_L30 K fuel σ1 (nI (i + 1)) = K σ2 (nI (n + 1)) ∧ sRep σ τ d n σ2
  | e, i, 0, _, _, h, _, _ => absurd h (Nat.not_lt_zero _)
  | 0, i, fuel + 1, σ1, hi, _, _, hS => by
    have e : i = n := by omega
    subst e
    refine ⟨σ1, ?_, hS⟩
    rw [mH_start_L30, hS.1 100 (by decide), hA.1.1, if_pos (nI_lt (by omega) (by omega))]
  | e + 1, i, fuel + 1, σ1, hi, h, hd, hS => by
    obtain ⟨t1, t2, t3, t4⟩ := hA.1.2.2 (i + 1) (by omega) (by omega)
    obtain ⟨s1, s2⟩ := hS
    by_cases h4 : τ 4 (i + 1) = 1
    · obtain ⟨b1, b2', b3, f, r, hf, hr, g6, g7, g8⟩ := t4 h4
      have hS2 : sRep σ τ d (i + 1) (jw2 σ1 15 (8 * f + r) (τ 9 (i + 1))) := by
        refine ⟨fun a ha => by rw [← s1 a ha]; unfold jw2; rw [if_neg ha], fun f' r' hf' hr' => ?_⟩
        rw [jw2_at, if_pos rfl, mlt, mvl, h4, g6, g7]
        by_cases hz : 8 * f' + r' = 8 * f + r
        · have q1 : f' = f := by omega
          have q2 : r' = r := by omega
          subst q1; subst q2
          have hyes : (1 : Int32) = 1 ∧ nI f' = nI f' ∧ nI r' = nI r' := ⟨rfl, rfl, rfl⟩
          rw [if_pos rfl, if_pos hyes, if_pos hyes, if_pos (by omega)]
        · have hne : ¬ ((1 : Int32) = 1 ∧ nI f = nI f' ∧ nI r = nI r') := fun z => hz (by rw [nI_inj (by omega) (by omega) z.2.1, nI_inj (by omega) (by omega) z.2.2])
          rw [if_neg hz, if_neg hne, if_neg hne]
          exact s2 f' r' hf' hr'
      obtain ⟨σ2, e1, h2⟩ := H_rep_L (d := d) K hA hn hc e (i + 1) fuel _ (by omega) (by omega) (by omega) hS2
      refine ⟨σ2, ?_, h2⟩
      rw [mH_start_L30, s1 100 (by decide), hA.1.1, if_neg (nI_nlt (by omega) (by omega)), jrd_n _ _ _ _ _ (by omega) (by decide), s1 6 (by decide), t1, if_pos h4, jrd_n _ _ _ _ _ (by omega) (by decide), jrd_n _ _ _ _ _ (by omega) (by decide), s1 8 (by decide), s1 10 (by decide), g8, b2', jwr_n _ _ _ _ _ _ (by omega) (by decide), nI_1, e1]
    · have hS2 : sRep σ τ d (i + 1) σ1 := ⟨s1, fun f' r' hf' hr' => by
        have hno : ¬ (τ 4 (i + 1) = 1 ∧ τ 6 (i + 1) = nI f' ∧ τ 7 (i + 1) = nI r') := fun z => h4 z.1
        rw [mlt, mvl, if_neg hno, if_neg hno]
        exact s2 f' r' hf' hr'⟩
      obtain ⟨σ2, e1, h2⟩ := H_rep_L (d := d) K hA hn hc e (i + 1) fuel σ1 (by omega) (by omega) (by omega) hS2
      refine ⟨σ2, ?_, h2⟩
      rw [mH_start_L30, s1 100 (by decide), hA.1.1, if_neg (nI_nlt (by omega) (by omega)), jrd_n _ _ _ _ _ (by omega) (by decide), s1 6 (by decide), t1, if_neg h4, nI_1, e1]
def sMd (τ : JS) (n y : Nat) (τ1 : JS) : Prop := (∀ a, a ≠ 10 → τ1 a = τ a) ∧ ∀ f r : Nat, f < 3 → r < 8 → τ1 10 (8 * f + r) = if 8 * f + r < y then mvl τ (nI f) (nI r) n else τ 10 (8 * f + r)
theorem M_st_r (K : JS → Int32 → Option (Int32 × JS)) (τ : JS) (n f : Nat) (hl : τ 100 2 = nI n) (hn : n ≤ 120) (hf : f < 3) : ∀ (e r fuel : Nat) (τ1 : JS), r + e = 8 → e < fuel → sMd τ n (8 * f + r) τ1 → ∃ τ2, mM_start_L42 K (nI f) fuel τ1 (nI r) = K τ2 (nI 8) ∧ sMd τ n (8 * f + 8) τ2
  | e, r, 0, _, _, h, _ => absurd h (Nat.not_lt_zero _)
  | 0, r, fuel + 1, τ1, hr, _, hS => by
    have e : r = 8 := by omega
    subst e
    exact ⟨τ1, by rw [mM_start_L42, if_pos (by decide)], hS⟩
  | e + 1, r, fuel + 1, τ1, hr, h, hS => by
    obtain ⟨s1, s2⟩ := hS
    have hs : jsame τ τ1 n := jsame_rows (fun a g1 g2 => s1 a (by omega)) n
    have hS2 : sMd τ n (8 * f + (r + 1)) (jw2 τ1 10 (8 * f + r) (mvl τ (nI f) (nI r) n)) := by
      refine ⟨fun a ha => by rw [← s1 a ha]; unfold jw2; rw [if_neg ha], fun f' r' hf' hr' => ?_⟩
      rw [jw2_at, if_pos rfl, s2 f' r' hf' hr']
      by_cases hz : 8 * f' + r' = 8 * f + r
      · have q1 : f' = f := by omega
        have q2 : r' = r := by omega
        subst q1; subst q2
        rw [if_pos rfl, if_pos (by omega)]
      · rw [if_neg hz]
        by_cases hlt : 8 * f' + r' < 8 * f + r
        · rw [if_pos hlt, if_pos (by omega)]
        · rw [if_neg hlt, if_neg (by omega)]
    obtain ⟨τ2, e1, h2⟩ := M_st_r K τ n f hl hn hf e (r + 1) fuel _ (by omega) (by omega) hS2
    refine ⟨τ2, ?_, h2⟩
    rw [mM_start_L42, if_neg (by rw [l8]; exact nI_ge (by omega) (by omega)), s1 100 (by decide), hl, M_val _ _ _ n hn, jbn_s, mvl_same _ _ hs, l8, pk_mul, nI_add, jwr_n _ _ _ _ _ _ (by omega) (by decide), nI_1, e1]
theorem M_st_f (K : JS → Int32 → Option (Int32 × JS)) (τ : JS) (n c : Nat) (hl : τ 100 2 = nI n) (hc : τ 100 1 = nI c) (hn : n ≤ 120) (hc3 : c ≤ 3) : ∀ (e f fuel : Nat) (τ1 : JS), f + e = c → e < fuel → sMd τ n (8 * f) τ1 → ∃ τ2, mM_start_L32 K fuel τ1 (nI f) = K τ2 (nI c) ∧ sMd τ n (8 * c) τ2
  | e, f, 0, _, _, h, _ => absurd h (Nat.not_lt_zero _)
  | 0, f, fuel + 1, τ1, hf, _, hS => by
    have e : f = c := by omega
    subst e
    exact ⟨τ1, by rw [mM_start_L32, hS.1 100 (by decide), hc, if_pos (nI_le (by omega) (by omega))], hS⟩
  | e + 1, f, fuel + 1, τ1, hf, h, hS => by
    have h100 := hS.1 100 (by decide)
    obtain ⟨τ2, e1, h2⟩ := M_st_r (fun σ10 z11 => mM_start_L32 K fuel σ10 (nI f + 1)) τ n f hl hn (by omega) 8 0 999 τ1 (by omega) (by omega) hS
    obtain ⟨τ3, e2, h3⟩ := M_st_f K τ n c hl hc hn hc3 e (f + 1) fuel τ2 (by omega) (by omega) h2
    refine ⟨τ3, ?_, h3⟩
    rw [nI_0] at e1
    rw [mM_start_L32, h100, hc, if_neg (nI_ge (by omega) (by omega)), e1, nI_1, e2]
theorem mlt_none {σ τ : JS} {n c : Nat} (hA : tA σ τ n c) (hc : c ≤ 3) (f : Nat) (hf : c ≤ f) (hf3 : f < 3) (r : Int32) : ∀ k, k ≤ n → mlt τ (nI f) r k = 0
  | 0, _ => rfl
  | k + 1, hk => by
    rw [mlt, if_neg, mlt_none hA hc f hf hf3 r k (by omega)]
    rintro ⟨h4, h6, -⟩
    obtain ⟨b1, b2', b3, f', r', hf', hr', g6, g7, g8⟩ := (hA.1.2.2 (k + 1) (by omega) hk).2.2.2 h4
    have := nI_inj (by omega) (by omega) (g6.symm.trans h6)
    omega
theorem start_L (l a c d : Nat) : ∀ (e j fuel fuel' : Nat) (σ τ : JS) (n w : Nat), j + e = 3 → e < fuel → e < fuel' → tI σ τ n c d w l a → σ 100 8 = 1 → τ 100 5 = 0 → ∃ (σ' τ' : JS) (n' w' : Nat), mH_start_L100 (fun σ27 z28 => some (0, (σ27 100 0), σ27)) fuel σ (nI j) = some (0, nI n', σ') ∧ mM_start_L83 fuel' τ (nI j) = some (nI n', τ') ∧ tI σ' τ' n' c d w' l a ∧ τ' 100 0 = τ 100 0
  | e, j, 0, _, _, _, _, _, _, h, _, _, _, _ => absurd h (Nat.not_lt_zero _)
  | e, j, _ + 1, 0, _, _, _, _, _, _, h, _, _, _ => absurd h (Nat.not_lt_zero _)
  | 0, j, fuel + 1, fuel' + 1, σ, τ, n, w, hj, _, _, hI, _, _ => by
    have e : j = 3 := by omega
    subst e
    refine ⟨σ, τ, n, w, ?_, ?_, hI, rfl⟩
    · rw [mH_start_L100, if_pos (by decide), hI.1.1.1]
    · rw [mM_start_L83, if_pos (by decide), hI.1.1.2.1]
  | e + 1, j, fuel + 1, fuel' + 1, σ, τ, n, w, hj, h, h', hI, hu, hv => by
    have hn := (tR_n hI.2.2.2.2.2.1).1
    have hle := mcy_le τ (nI j) n
    have sH : mH_start_L100 (fun σ27 z28 => some (0, (σ27 100 0), σ27)) (fuel + 1) σ (nI j) = if b2 (0 < mcy τ (nI j) n) = 0 then mH_start_L100 (fun σ27 z28 => some (0, (σ27 100 0), σ27)) fuel σ (nI (j + 1)) else jbn (mH_rollBack σ (nI j)) fun q25 => mH_start_L100 (fun σ27 z28 => some (0, (σ27 100 0), σ27)) fuel q25 (nI (j + 1)) := by
      rw [mH_start_L100, if_neg (by rw [l3]; exact nI_ge (by omega) (by omega)), H_open σ τ n j hI.1.2.1 hn (by omega), jbn_s, nI_1]
    have sM : mM_start_L83 (fuel' + 1) τ (nI j) = if nI (mcy τ (nI j) n) ≤ 0 then mM_start_L83 fuel' τ (nI (j + 1)) else jbn (mM_undo τ (nI j)) fun q16 => mM_start_L83 fuel' q16 (nI (j + 1)) := by
      rw [mM_start_L83, if_neg (by rw [l3]; exact nI_ge (by omega) (by omega)), hI.1.1.2.1, M_cyc τ (nI j) n hn, jbn_s, nI_1]
    by_cases hp : 0 < mcy τ (nI j) n
    · obtain ⟨σ1, τ1, n1, w1, k1, k2, k3, k4, k5, k6⟩ := tI_undo hI hu hv (by omega : j < 4) hp
      obtain ⟨σ2, τ2, n2, w2, m1, m2, m3, m4⟩ := start_L l a c d e (j + 1) fuel fuel' σ1 τ1 n1 w1 (by omega) (by omega) (by omega) k3 k4 k5
      refine ⟨σ2, τ2, n2, w2, ?_, ?_, m3, m4.trans k6⟩
      · rw [sH, b2_t hp, if_neg n10, k1, jbn_s, m1]
      · rw [sM, if_neg (nI_nle hp (by omega)), k2, jbn_s, m2]
    · obtain ⟨σ2, τ2, n2, w2, m1, m2, m3, m4⟩ := start_L l a c d e (j + 1) fuel fuel' σ τ n w (by omega) (by omega) (by omega) hI hu hv
      refine ⟨σ2, τ2, n2, w2, ?_, ?_, m3, m4⟩
      · rw [sH, b2_f hp, if_pos rfl, m1]
      · rw [sM, show mcy τ (nI j) n = 0 by omega, if_pos (by decide), m2]
theorem O_start : jo_start JInv := by
  intro σ τ h
  have hJ := fun y => J_thr y h
  obtain ⟨n, c, d, w, l, a, hI⟩ := h
  have hI0 := tI_thr 0 hI
  obtain ⟨hA, hD, hP, hU, hF, hR, hK, hL, h7⟩ := hI0
  have hn := (tR_n hR).1
  have hc := hF.2.2.1
  have hd := hR.2.2.1
  unfold mH_start mM_start
  rcases hU with ⟨u1, u2, u3⟩ | ⟨u1, u2, u3⟩
  · rw [u1, show τ 100 5 = 0 from u2, if_neg n10, if_pos rfl]
    refine ⟨2, 0, σ, 0, jw2 τ 100 0 1, rfl, ?_, rfl, fun h => absurd h (by decide), by decide, hJ 1⟩
    unfold mM_start_J13
    rw [jst_n, thr_0, if_neg (by decide)]
  · rw [u1, show τ 100 5 = 1 from u2, if_pos rfl, if_neg n10]
    subst u3
    unfold mS_readDisk mS_writeDisk mM_start_J13
    rw [jst_n, thr_0, if_pos (show (0 : Int32) ≤ 0 by decide), jst_n, show (24 : Int32) = nI 24 from rfl, l0, jcp_n _ _ _ _ _ _ _ _ _ (by omega) (by omega) (by decide) (by decide), jbn_s, H_start0 _ d (show jwA σ 15 (va_cpy (σ 16) (σ 15) 0 0 24) 100 1 = nI d from hR.1), jbn_s]
    have hS0 : sRep σ (jw2 τ 100 0 0) d (8 * d) (jwA σ 15 (va_cpy (σ 16) (σ 15) 0 0 24)) := by
      refine ⟨fun a ha => by unfold jwA; rw [if_neg ha], fun f r hf hr => ?_⟩
      have := mlt_le (jw2 τ 100 0 0) (nI f) (nI r) (8 * d)
      rw [if_neg (by omega), jwA_at, if_pos rfl, pk_cpy_in (by omega) (by omega)]
      congr 1; omega
    obtain ⟨σ2, e1, r1, r2⟩ := H_rep_L (fun σ17 z18 => jbn (jcp σ17 15 24 16 24 (nI 0) (nI 0) (nI 24) fun σ1 => some σ1) fun q19 => jst (jw2 q19 100 8 (1 : Int32)) fun σ21 => mH_start_L100 (fun σ27 z28 => some (0, (σ27 100 0), σ27)) 999 σ21 (nI 0)) hA hn hc (n - 8 * d) (8 * d) 999 _ (by omega) (by omega) (Nat.le_refl _) hS0
    have hl2 : jw2 (jw2 τ 100 0 0) 100 5 0 100 2 = nI n := hA.1.2.1
    have hc2 : jw2 (jw2 τ 100 0 0) 100 5 0 100 1 = nI c := hF.2.1
    obtain ⟨τ2, e2, q1, q2⟩ := M_st_f (fun σ12 z13 => mM_start_L83 999 σ12 (nI 0)) (jw2 (jw2 τ 100 0 0) 100 5 0) n c hl2 hc2 hn hc c 0 999 (jw2 (jw2 τ 100 0 0) 100 5 0) (by omega) (by omega) ⟨fun _ _ => rfl, fun f r hf hr => by rw [if_neg (by omega)]⟩
    have hs1 : jsame (jw2 τ 100 0 0) (jw2 (jw2 τ 100 0 0) 100 5 0) n := jsame_rows (fun a g1 g2 => by unfold jw2; rw [if_neg (by omega), if_neg (by omega)]) n
    have hτr : ∀ a, a ≠ 10 → a ≠ 100 → τ2 a = jw2 τ 100 0 0 a := fun a g1 g2 => by rw [q1 a g1]; unfold jw2; rw [if_neg g2]
    have hτ1 : ∀ q, q ≠ 5 → τ2 100 q = jw2 τ 100 0 0 100 q := fun q g => by rw [q1 100 (by decide), jw2_at, if_pos rfl, if_neg g]
    have hs : jsame (jw2 τ 100 0 0) τ2 n := jsame_rows (fun a g1 g2 => hτr a (by omega) (by omega)) n
    have v15 : ∀ f r : Nat, f < 3 → r < 8 → σ2 15 (8 * f + r) = mvl (jw2 τ 100 0 0) (nI f) (nI r) n := fun f r hf hr => by
      rw [r2 f r hf hr]
      by_cases hz : 8 * d < mlt (jw2 τ 100 0 0) (nI f) (nI r) n
      · rw [if_pos hz]
      · rw [if_neg hz]
        exact hP f r hf hr (by omega)
    have hσr : ∀ a, a ≠ 15 → a ≠ 16 → a ≠ 100 → jw2 (jwA σ2 16 (va_cpy (σ2 15) (σ2 16) 0 0 24)) 100 8 1 a = σ a := fun a g1 g2 g3 => by
      rw [← r1 a g1]
      unfold jw2 jwA
      rw [if_neg g3, if_neg g2]
    have hσ1 : ∀ q, q ≠ 8 → jw2 (jwA σ2 16 (va_cpy (σ2 15) (σ2 16) 0 0 24)) 100 8 1 100 q = σ 100 q := fun q g => by
      rw [jw2_at, if_pos rfl, if_neg g, jwA_at, if_neg (by decide), r1 100 (by decide)]
    have v16 : ∀ f r : Nat, f < 3 → r < 8 → jw2 (jwA σ2 16 (va_cpy (σ2 15) (σ2 16) 0 0 24)) 100 8 1 16 (8 * f + r) = mvl (jw2 τ 100 0 0) (nI f) (nI r) n := fun f r hf hr => by
      rw [jw2_at, if_neg (by decide), jwA_at, if_pos rfl, pk_cpy_in (by omega) (by omega), ← v15 f r hf hr]
      congr 1; omega
    have v15' : ∀ f r : Nat, f < 3 → r < 8 → jw2 (jwA σ2 16 (va_cpy (σ2 15) (σ2 16) 0 0 24)) 100 8 1 15 (8 * f + r) = mvl (jw2 τ 100 0 0) (nI f) (nI r) n := v15
    have hx : ∀ x, x < 24 → ∃ f r : Nat, f < 3 ∧ r < 8 ∧ x = 8 * f + r := fun x hx => ⟨x / 8, x % 8, by omega, by omega, by omega⟩
    have hI3 : tI (jw2 (jwA σ2 16 (va_cpy (σ2 15) (σ2 16) 0 0 24)) 100 8 1) τ2 n c d 0 l a := by
      obtain ⟨hJ', hC', hO', hV'⟩ := hA
      have hA3 : tA (jw2 (jwA σ2 16 (va_cpy (σ2 15) (σ2 16) 0 0 24)) 100 8 1) τ2 n c := by
        have hA4 : tA (jwA σ 15 (jw2 (jwA σ2 16 (va_cpy (σ2 15) (σ2 16) 0 0 24)) 100 8 1 15)) (jw2 τ 100 0 0) n c := ⟨hJ', hC', hO', fun f r hf hr => v15' f r hf hr⟩
        refine tA_fr (σ := jwA σ 15 (jw2 (jwA σ2 16 (va_cpy (σ2 15) (σ2 16) 0 0 24)) 100 8 1 15)) (fun a g1 g2 => ?_) (hσ1 0 (by decide)) (fun a g1 g2 => hτr a (by omega) (by omega)) (hτ1 2 (by decide)) hA4
        by_cases ha : a = 15
        · subst ha; rfl
        · rw [hσr a ha (by omega) (by omega)]
          unfold jwA
          rw [if_neg ha]
      refine ⟨hA3, ⟨by rw [hσ1 2 (by decide)]; exact hD.1, by rw [hτ1 6 (by decide)]; exact hD.2.1, by omega, fun x hx24 => ?_, fun i hi => absurd hi (Nat.not_lt_zero _)⟩, fun f r hf hr _ => by rw [v16 f r hf hr, mvl_same _ _ hs], Or.inl ⟨by simp [jw2_at], by rw [q1 100 (by decide)]; simp [jw2_at], fun f r hf hr => by rw [fw, v16 f r hf hr, mvl_same _ _ hs]⟩, tF_fr hn (fun a g1 g2 => hσr a (by omega) (by omega) (by omega)) (hσ1 6 (by decide)) (fun a g1 g2 => hτr a (by omega) (by omega)) (hτ1 1 (by decide)) hs (Nat.le_refl _) (fun f _ _ hm => ⟨by rw [mob_same _ hs]; exact hm, fun r _ => mvl_same _ _ hs⟩) hF, tR_fr (hσ1 1 (by decide)) (hτ1 3 (by decide)) hs hR, tK_fr (fun a g1 g2 => hσr a (by omega) (by omega) (by omega)) (fun a g1 g2 => hτr a (by omega) (by omega)) hs (Nat.le_refl _) (Nat.le_refl _) hK, tL_fr (fun a g1 g2 => hσr a (by omega) (by omega) (by omega)) (fun q g1 g2 => hσ1 q (by omega)) (fun a g1 g2 => hτr a (by omega) (by omega)) (fun q g1 g2 => hτ1 q (by omega)) hs (Nat.le_refl _) hL, by rw [hσ1 7 (by decide), hτ1 4 (by decide)]; exact h7⟩
      obtain ⟨f, r, hf, hr, rfl⟩ := hx x hx24
      rw [v16 f r hf hr, q2 f r hf hr, mvl_same _ _ hs1]
      by_cases hfc : f < c
      · rw [if_pos (by omega)]
      · rw [if_neg (by omega)]
        have hm := mlt_none ⟨hJ', hC', hO', hV'⟩ hc f (by omega) hf (nI r) n (Nat.le_refl _)
        rw [← hP f r hf hr (by omega)]
        exact hD.2.2.2.1 _ hx24
    obtain ⟨σ', τ', n', w', m1, m2, m3, m4⟩ := start_L l a c d 3 0 999 999 _ τ2 n 0 (by omega) (by omega) (by omega) hI3 (by simp [jw2_at]) (by rw [q1 100 (by decide)]; simp [jw2_at])
    refine ⟨0, nI n', σ', nI n', τ', ?_, ?_, ?_, fun _ => rfl, by decide, n', c, d, w', l, a, m3⟩
    · rw [e1, jcp_n _ _ _ _ _ _ _ _ _ (by omega) (by omega) (by decide) (by decide), jbn_s, jst_n, m1]
    · rw [← m2]
      exact e2
    · rw [m4, hτ1 0 (by decide), thr_0]; rfl
