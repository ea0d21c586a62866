/-! taking over -/
theorem open_iff (τ : JS) (j : Int32) (k : Nat) (hk : 1 ≤ k) (h4 : τ 4 k = 1) (h5 : τ 5 k = j) : ∀ e : Nat, (0 < mcy τ j (k + e) ∧ mcy τ j (k + e) ≤ k ↔ ∀ m, k < m → m ≤ k + e → τ 5 m = j → τ 4 m = 1)
  | 0 => by
    obtain ⟨k', rfl⟩ : ∃ k', k = k' + 1 := ⟨k - 1, by omega⟩
    have hle := mcy_le τ j k'
    constructor
    · intro _ m h1 h2
      omega
    · intro _
      rw [Nat.add_zero, mcy, if_pos h5, if_pos h4]
      split <;> omega
  | e + 1 => by
    have ih := open_iff τ j k hk h4 h5 e
    have hle := mcy_le τ j (k + e)
    rw [show k + (e + 1) = (k + e) + 1 by omega, mcy]
    by_cases g5 : τ 5 (k + e + 1) = j
    · rw [if_pos g5]
      by_cases g4 : τ 4 (k + e + 1) = 1
      · rw [if_pos g4]
        have base : (0 < mcy τ j (k + e) ∧ mcy τ j (k + e) ≤ k) ↔ (0 < (if mcy τ j (k + e) = 0 then k + e + 1 else mcy τ j (k + e)) ∧ (if mcy τ j (k + e) = 0 then k + e + 1 else mcy τ j (k + e)) ≤ k) := by
          split <;> omega
        rw [← base, ih]
        constructor
        · intro h m h1 h2 h3
          by_cases hm : m = k + e + 1
          · rw [hm]; exact g4
          · exact h m h1 (by omega) h3
        · intro h m h1 h2 h3
          exact h m h1 (by omega) h3
      · rw [if_neg g4]
        constructor
        · intro h; omega
        · intro h
          exact absurd (h (k + e + 1) (by omega) (Nat.le_refl _) g5) g4
    · rw [if_neg g5, ih]
      constructor
      · intro h m h1 h2 h3
        by_cases hm : m = k + e + 1
        · rw [hm] at h3; exact absurd h3 g5
        · exact h m h1 (by omega) h3
      · intro h m h1 h2 h3
        exact h m h1 (by omega) h3
def mov (τ : JS) (a k : Nat) (j : Int32) : Prop := ∃ m, k < m ∧ m ≤ a ∧ τ 5 m = j ∧ ¬ τ 4 m = 1
theorem open_mov (τ : JS) (a k : Nat) (h1 : 1 ≤ k) (h2 : k ≤ a) (h4 : τ 4 k = 1) : (0 < mcy τ (τ 5 k) a ∧ mcy τ (τ 5 k) a ≤ k) ↔ ¬ mov τ a k (τ 5 k) := by
  have h := open_iff τ (τ 5 k) k h1 h4 rfl (a - k)
  rw [show k + (a - k) = a by omega] at h
  rw [h]
  constructor
  · rintro h ⟨m, g1, g2, g3, g4⟩
    exact g4 (h m g1 g2 g3)
  · intro h m g1 g2 g3
    by_cases g4 : τ 4 m = 1
    · exact g4
    · exact absurd ⟨m, g1, g2, g3, g4⟩ h
theorem H_un_L {σ τ : JS} {n c a : Nat} (hA : tA σ τ n c) (hn : n ≤ 120) (hc : c ≤ 3) (ha : a ≤ n) : ∀ (k fuel : Nat) (σ1 : JS), k < fuel → k ≤ a → (∀ q, q ≠ 24 → q ≠ 30 → q ≠ 100 → σ1 q = σ q) → (∀ j : Nat, j < 4 → σ1 30 j = b2 (mov τ a k (nI j))) → ∃ σ2, mR_undoOpenCycles_L22 fuel σ1 (nI k) = some σ2 ∧ (∀ q, q ≠ 24 → q ≠ 30 → σ2 q = σ1 q) ∧ ∀ f r : Nat, f < 3 → r < 8 → σ2 24 (8 * f + r) = mtd τ (nI f) (nI r) a k (σ1 24 (8 * f + r))
  | k, 0, _, h, _, _, _ => absurd h (Nat.not_lt_zero _)
  | 0, fuel + 1, σ1, _, _, h1, h2 => ⟨σ1, by rw [mR_undoOpenCycles_L22, if_pos (by decide)], fun _ _ _ => rfl, fun _ _ _ _ => rfl⟩
  | k + 1, fuel + 1, σ1, h, hk, h1, h2 => by
    obtain ⟨t1, t2, ⟨j, hj, t3⟩, t4⟩ := hA.1.2.2 (k + 1) (by omega) (by omega)
    have st : mR_undoOpenCycles_L22 (fuel + 1) σ1 (nI (k + 1)) = if τ 4 (k + 1) = (1 : Int32) then (if b2 (mov τ a (k + 1) (nI j)) = 0 then (jwr σ1 24 24 (σ 8 (k + 1)) (σ 9 (k + 1)) fun σ16 => mR_undoOpenCycles_L22 fuel σ16 (nI k)) else mR_undoOpenCycles_L22 fuel σ1 (nI k)) else mR_undoOpenCycles_L22 fuel (jw2 σ1 30 j 1) (nI k) := by
      rw [mR_undoOpenCycles_L22, if_neg (nI_nle (by omega) (by omega)), jrd_n _ _ _ _ _ (by omega) (by decide), jrd_n _ _ _ _ _ (by omega) (by decide), jrd_n _ _ _ _ _ (by omega) (by decide), jrd_n _ _ _ _ _ (by omega) (by decide), h1 7 (by decide) (by decide) (by decide), h1 6 (by decide) (by decide) (by decide), h1 8 (by decide) (by decide) (by decide), h1 9 (by decide) (by decide) (by decide), t1, t2, t3, jrd_n _ _ _ _ _ hj (by decide), jwr_n _ _ _ _ _ _ hj (by decide), h2 j hj, pk_m1]
    rw [st]
    by_cases h4 : τ 4 (k + 1) = 1
    · obtain ⟨b1, b2', b3, f, r, hf, hr, g6, g7, g8⟩ := t4 h4
      have hmv : ∀ i : Nat, i < 4 → (mov τ a k (nI i) ↔ mov τ a (k + 1) (nI i)) := fun i hi => by
        constructor
        · rintro ⟨m, q1, q2, q3, q4⟩
          by_cases hm : m = k + 1
          · rw [hm] at q4; exact absurd h4 q4
          · exact ⟨m, by omega, q2, q3, q4⟩
        · rintro ⟨m, q1, q2, q3, q4⟩
          exact ⟨m, by omega, q2, q3, q4⟩
      have hopen := open_mov τ a (k + 1) (by omega) hk h4
      rw [if_pos h4]
      by_cases hm : mov τ a (k + 1) (nI j)
      · rw [b2_t hm, if_neg n10]
        obtain ⟨σ2, e1, e2, e3⟩ := H_un_L hA hn hc ha k fuel σ1 (by omega) (by omega) h1 (fun i hi => by rw [h2 i hi]; exact b2_c (hmv i hi).symm)
        refine ⟨σ2, e1, e2, fun f' r' hf' hr' => ?_⟩
        rw [e3 f' r' hf' hr', mtd, if_neg]
        rintro ⟨-, -, -, q⟩
        rw [hopen, t3] at q
        exact q hm
      · rw [b2_f hm, if_pos rfl, g8, b1, jwr_n _ _ _ _ _ _ (by omega) (by decide)]
        obtain ⟨σ2, e1, e2, e3⟩ := H_un_L hA hn hc ha k fuel (jw2 σ1 24 (8 * f + r) (τ 8 (k + 1))) (by omega) (by omega) (fun q q1 q2 q3 => by rw [← h1 q q1 q2 q3]; unfold jw2; rw [if_neg q1]) (fun i hi => by rw [jw2_at, if_neg (by decide), h2 i hi]; exact b2_c (hmv i hi).symm)
        refine ⟨σ2, e1, fun q q1 q2 => by rw [e2 q q1 q2]; unfold jw2; rw [if_neg q1], fun f' r' hf' hr' => ?_⟩
        rw [e3 f' r' hf' hr', mtd, jw2_at, if_pos rfl]
        congr 1
        by_cases hz : 8 * f' + r' = 8 * f + r
        · have q1 : f' = f := by omega
          have q2 : r' = r := by omega
          subst q1; subst q2
          rw [if_pos rfl, if_pos ⟨h4, g6, g7, hopen.mpr (by rw [t3]; exact hm)⟩]
        · rw [if_neg hz, if_neg]
          rintro ⟨-, q6, q7, -⟩
          exact hz (by rw [nI_inj (by omega) (by omega) (g6.symm.trans q6), nI_inj (by omega) (by omega) (g7.symm.trans q7)])
    · rw [if_neg h4]
      have h30 : ∀ i : Nat, i < 4 → jw2 σ1 30 j 1 30 i = b2 (mov τ a k (nI i)) := by
        intro i hi
        rw [jw2_at, if_pos rfl]
        by_cases hij : i = j
        · rw [if_pos hij, b2_t ⟨k + 1, by omega, hk, by rw [hij]; exact t3, h4⟩]
        · rw [if_neg hij, h2 i hi]
          refine b2_c ⟨?_, ?_⟩
          · rintro ⟨m, q1, q2, q3, q4⟩
            exact ⟨m, by omega, q2, q3, q4⟩
          · rintro ⟨m, q1, q2, q3, q4⟩
            by_cases hm : m = k + 1
            · rw [hm] at q3
              exact absurd (nI_inj (by omega) (by omega) (t3.symm.trans q3)) (fun z => hij z.symm)
            · exact ⟨m, by omega, q2, q3, q4⟩
      obtain ⟨σ2, e1, e2, e3⟩ := H_un_L hA hn hc ha k fuel (jw2 σ1 30 j 1) (by omega) (by omega) (fun q q1 q2 q3 => by rw [← h1 q q1 q2 q3]; unfold jw2; rw [if_neg q2]) h30
      refine ⟨σ2, e1, fun q q1 q2 => by rw [e2 q q1 q2]; unfold jw2; rw [if_neg q2], fun f' r' hf' hr' => ?_⟩
      rw [e3 f' r' hf' hr', mtd, if_neg (fun z => h4 z.1)]
      rfl
theorem O_takeOver : jo_takeOver JInv := by
  intro σ τ h
  obtain ⟨n, c, d, w, l, a, hI⟩ := h
  have hI0 := tI_thr 0 hI
  have hn := (tR_n hI.2.2.2.2.2.1).1
  have hc := hI.2.2.2.2.1.2.2.1
  obtain ⟨a1, a2, a3, a4, a5, a6, a7, a8, a9, a10, a11⟩ := hI0.2.2.2.2.2.2.2.1
  have hA := hI0.1
  have hs : ∀ m, jsame (jw2 τ 100 0 0) (jw2 (jw2 τ 100 0 0) 100 9 1) m := fun m => jsame_rows (fun q g1 g2 => by unfold jw2; rw [if_neg (by omega), if_neg (by omega)]) m
  have m9 : ∀ q, q ≠ 9 → jw2 (jw2 τ 100 0 0) 100 9 1 100 q = jw2 τ 100 0 0 100 q := fun q g => by rw [jw2_at, if_pos rfl, if_neg g]
  unfold mH_takeOver mR_undoOpenCycles mM_takeOver
  rw [jst_n, jst_n]
  rcases a11 with ⟨b1, b2'⟩ | ⟨b1, b2'⟩
  · rw [if_pos b1, jst_n]
    unfold mR_undoOpenCycles_J16
    rw [show jwA (jw2 σ 100 5 1) 30 (fun _ => 0) 100 4 = nI a from a7]
    obtain ⟨σ2, e1, e2, e3⟩ := H_un_L hA hn hc a9 a 999 (jwA (jw2 σ 100 5 1) 30 (fun _ => 0)) (by omega) (Nat.le_refl _) (fun q q1 q2 q3 => by unfold jwA jw2; rw [if_neg q2, if_neg q3]) (fun i hi => by
      rw [jwA_at, if_pos rfl, b2_f]
      rintro ⟨m, g1, g2, -⟩
      omega)
    rw [e1, jbn_s]
    refine ⟨nI a, σ2, jw2 (jw2 τ 100 0 0) 100 9 1, ?_, ?_, n, c, d, w, l, a, ?_⟩
    · rw [e2 100 (by decide) (by decide)]
      exact congrArg (fun z => some (z, σ2)) a7
    · exact congrArg (fun z => some (z, jw2 (jw2 τ 100 0 0) 100 9 1)) a8
    · have x1 : ∀ q, q ≠ 24 → q ≠ 30 → q ≠ 100 → σ2 q = σ q := fun q q1 q2 q3 => by
        rw [e2 q q1 q2]
        unfold jwA jw2
        rw [if_neg q2, if_neg q3]
      have x2 : ∀ q, q ≠ 5 → σ2 100 q = σ 100 q := fun q g => by
        rw [e2 100 (by decide) (by decide), jwA_at, if_neg (by decide), jw2_at, if_pos rfl, if_neg g]
      have x5 : σ2 100 5 = 1 := by
        rw [e2 100 (by decide) (by decide)]
        rfl
      refine tI_L hI0 (fun q g => x1 q (by omega) (by omega) (by omega)) (fun q g1 g2 g3 => x2 q g3) (fun q g => by unfold jw2; rw [if_neg (by omega), if_neg (by omega)]) (fun q g0 g1 g2 g3 => m9 q g3) ⟨by rw [x2 3 (by decide)]; exact a1, a2, a3, fun i hi => by rw [x1 23 (by decide) (by decide) (by decide)]; exact a4 i hi, fun k hk => by rw [x1 25 (by decide) (by decide) (by decide)]; exact a5 k hk, a6, by rw [x2 4 (by decide)]; exact a7, a8, a9, by rw [x5]; rfl, Or.inr ⟨x5, fun f r hf hr => ?_⟩⟩
      rw [e3 f r hf hr, mvl_same _ _ (hs _), mtd_same _ _ a (hs a) a _ (Nat.le_refl _), ← b2' f r hf hr]
      rfl
  · rw [if_neg (by rw [b1]; exact n10), jbn_s]
    refine ⟨nI a, σ, jw2 (jw2 τ 100 0 0) 100 9 1, ?_, ?_, n, c, d, w, l, a, ?_⟩
    · exact congrArg (fun z => some (z, σ)) a7
    · exact congrArg (fun z => some (z, jw2 (jw2 τ 100 0 0) 100 9 1)) a8
    · refine tI_L hI0 (fun _ _ => rfl) (fun _ _ _ _ => rfl) (fun q g => by unfold jw2; rw [if_neg (by omega), if_neg (by omega)]) (fun q g0 g1 g2 g3 => m9 q g3) ⟨a1, a2, a3, a4, a5, a6, a7, a8, a9, by rw [b1]; rfl, Or.inr ⟨b1, fun f r hf hr => ?_⟩⟩
      rw [mvl_same _ _ (hs _), mtd_same _ _ a (hs a) a _ (Nat.le_refl _)]
      exact b2' f r hf hr
/-- the least of some numbers, 0 for none -/
def isMin (P : Nat → Prop) (x : Nat) : Prop := (x = 0 ∧ ∀ k, ¬ P k) ∨ (0 < x ∧ P x ∧ ∀ k, P k → x ≤ k)
theorem isMin_c {P Q : Nat → Prop} {x : Nat} (h : ∀ k, P k ↔ Q k) (hx : isMin P x) : isMin Q x := by
  rcases hx with ⟨h1, h2⟩ | ⟨h1, h2, h3⟩
  · exact Or.inl ⟨h1, fun k hk => h2 k ((h k).mpr hk)⟩
  · exact Or.inr ⟨h1, (h x).mp h2, fun k hk => h3 k ((h k).mpr hk)⟩
theorem isMin_add {P : Nat → Prop} {x k : Nat} (hk : 0 < k) (hx : isMin P x) : isMin (fun i => P i ∨ i = k) (if x = 0 then k else if x ≤ k then x else k) := by
  rcases hx with ⟨h1, h2⟩ | ⟨h1, h2, h3⟩
  · rw [if_pos h1]
    refine Or.inr ⟨hk, Or.inr rfl, ?_⟩
    rintro i (h | h)
    · exact absurd h (h2 i)
    · omega
  · rw [if_neg (by omega)]
    by_cases h : x ≤ k
    · rw [if_pos h]
      refine Or.inr ⟨h1, Or.inl h2, ?_⟩
      rintro i (g | g)
      · exact h3 i g
      · omega
    · rw [if_neg h]
      refine Or.inr ⟨hk, Or.inr rfl, ?_⟩
      rintro i (g | g)
      · have := h3 i g; omega
      · omega
theorem M_tb_L (K : Int32 → Int32 → Option Int32) (τ : JS) (f r j : Int32) (a b : Nat) (ha : a ≤ 120) : ∀ (e fuel : Nat) (P : Nat → Prop) (x : Nat), e < fuel → b + e ≤ a → isMin P x → x ≤ 120 → ∃ (x' : Nat) (z : Int32), mM_takenBack_L29 K τ f r j (nI (b + 1)) fuel (nI x) (nI (b + e)) = K (nI x') z ∧ x' ≤ 120 ∧ isMin (fun k => P k ∨ (b + 1 ≤ k ∧ k ≤ b + e ∧ τ 5 k = j ∧ τ 6 k = f ∧ τ 7 k = r)) x'
  | e, 0, _, _, h, _, _, _ => absurd h (Nat.not_lt_zero _)
  | 0, fuel + 1, P, x, _, hb, hP, hx => by
    refine ⟨x, nI (b + 0), by rw [mM_takenBack_L29, if_pos (nI_lt (by omega) (by omega))], hx, isMin_c (fun k => ⟨Or.inl, ?_⟩) hP⟩
    rintro (h | ⟨h1, h2, -⟩)
    · exact h
    · omega
  | e + 1, fuel + 1, P, x, h, hb, hP, hx => by
    have st : ∀ Y : Option Int32, Y = mM_takenBack_L29 K τ f r j (nI (b + 1)) (fuel + 1) (nI x) (nI (b + (e + 1))) → Y = if τ 5 (b + (e + 1)) = j ∧ τ 6 (b + (e + 1)) = f ∧ τ 7 (b + (e + 1)) = r then mM_takenBack_L29 K τ f r j (nI (b + 1)) fuel (nI (if x = 0 then b + (e + 1) else if x ≤ b + (e + 1) then x else b + (e + 1))) (nI (b + e)) else mM_takenBack_L29 K τ f r j (nI (b + 1)) fuel (nI x) (nI (b + e)) := by
      intro Y hY
      rw [hY, mM_takenBack_L29, if_neg (nI_nlt (by omega) (by omega)), if_neg (nI_nle (by omega) (by omega)), jrd_n _ _ _ _ _ (by omega) (by decide), jrd_n _ _ _ _ _ (by omega) (by decide), jrd_n _ _ _ _ _ (by omega) (by decide)]
      simp only [if_neg n10, if_true, show b + (e + 1) = (b + e) + 1 by omega, pk_m1]
      by_cases h5 : τ 5 (b + e + 1) = j
      · rw [if_pos h5]
        by_cases h6 : τ 6 (b + e + 1) = f
        · rw [if_pos h6]
          by_cases h7 : τ 7 (b + e + 1) = r
          · rw [if_pos h7, if_pos (show τ 5 (b + e + 1) = j ∧ τ 6 (b + e + 1) = f ∧ τ 7 (b + e + 1) = r from ⟨h5, h6, h7⟩)]
            by_cases h0 : x = 0
            · rw [if_pos h0, h0, if_pos (show nI 0 = 0 from rfl)]
            · rw [if_neg h0, if_neg (nI_ne0 (by omega) (by omega))]
              by_cases hle : x ≤ b + e + 1
              · rw [if_pos hle, if_pos (nI_le hle (by omega))]
              · rw [if_neg hle, if_neg (nI_ge (by omega) (by omega))]
          · rw [if_neg h7, if_neg (show ¬ (τ 5 (b + e + 1) = j ∧ τ 6 (b + e + 1) = f ∧ τ 7 (b + e + 1) = r) from fun z => h7 z.2.2)]
        · rw [if_neg h6, if_neg (show ¬ (τ 5 (b + e + 1) = j ∧ τ 6 (b + e + 1) = f ∧ τ 7 (b + e + 1) = r) from fun z => h6 z.2.1)]
      · rw [if_neg h5, if_neg (show ¬ (τ 5 (b + e + 1) = j ∧ τ 6 (b + e + 1) = f ∧ τ 7 (b + e + 1) = r) from fun z => h5 z.1)]
    have st := st _ rfl
    by_cases hh : τ 5 (b + (e + 1)) = j ∧ τ 6 (b + (e + 1)) = f ∧ τ 7 (b + (e + 1)) = r
    · rw [if_pos hh] at st
      have hm := isMin_add (k := b + (e + 1)) (by omega) hP
      obtain ⟨x', z, k1, k2, k3⟩ := M_tb_L K τ f r j a b ha e fuel _ _ (by omega) (by omega) hm (by split <;> (try split) <;> omega)
      refine ⟨x', z, by rw [st, k1], k2, isMin_c (fun k => ?_) k3⟩
      constructor
      · rintro ((g | g) | ⟨g1, g2, g3⟩)
        · exact Or.inl g
        · rw [g]; exact Or.inr ⟨by omega, by omega, hh⟩
        · exact Or.inr ⟨g1, by omega, g3⟩
      · rintro (g | ⟨g1, g2, g3⟩)
        · exact Or.inl (Or.inl g)
        · by_cases hk : k = b + (e + 1)
          · exact Or.inl (Or.inr hk)
          · exact Or.inr ⟨g1, by omega, g3⟩
    · rw [if_neg hh] at st
      obtain ⟨x', z, k1, k2, k3⟩ := M_tb_L K τ f r j a b ha e fuel P x (by omega) (by omega) hP hx
      refine ⟨x', z, by rw [st, k1], k2, isMin_c (fun k => ?_) k3⟩
      constructor
      · rintro (g | ⟨g1, g2, g3⟩)
        · exact Or.inl g
        · exact Or.inr ⟨g1, by omega, g3⟩
      · rintro (g | ⟨g1, g2, g3⟩)
        · exact Or.inl g
        · by_cases hk : k = b + (e + 1)
          · rw [hk] at g3; exact absurd g3 hh
          · exact Or.inr ⟨g1, by omega, g3⟩
theorem M_tb_J (τ : JS) (f r : Int32) (a : Nat) (ha : a ≤ 120) (h8 : τ 100 8 = nI a) : ∀ (e j fuel : Nat) (P : Nat → Prop) (x : Nat), j + e = 4 → e < fuel → isMin P x → x ≤ 120 → ∃ x' : Nat, mM_takenBack_L5 τ f r fuel (nI x) (nI j) = some (nI x') ∧ x' ≤ 120 ∧ isMin (fun k => P k ∨ ∃ i, j ≤ i ∧ i < 4 ∧ 0 < mcy τ (nI i) a ∧ mcy τ (nI i) a ≤ k ∧ k ≤ a ∧ τ 5 k = nI i ∧ τ 6 k = f ∧ τ 7 k = r) x'
  | e, j, 0, _, _, _, h, _, _ => absurd h (Nat.not_lt_zero _)
  | 0, j, fuel + 1, P, x, hj, _, hP, hx => by
    have e : j = 4 := by omega
    subst e
    refine ⟨x, by rw [mM_takenBack_L5, if_pos (by decide)], hx, isMin_c (fun k => ⟨Or.inl, ?_⟩) hP⟩
    rintro (h | ⟨i, h1, h2, -⟩)
    · exact h
    · omega
  | e + 1, j, fuel + 1, P, x, hj, h, hP, hx => by
    have hle := mcy_le τ (nI j) a
    have mid : ∃ (x1 : Nat), mM_takenBack_L5 τ f r (fuel + 1) (nI x) (nI j) = mM_takenBack_L5 τ f r fuel (nI x1) (nI (j + 1)) ∧ x1 ≤ 120 ∧ isMin (fun k => P k ∨ (0 < mcy τ (nI j) a ∧ mcy τ (nI j) a ≤ k ∧ k ≤ a ∧ τ 5 k = nI j ∧ τ 6 k = f ∧ τ 7 k = r)) x1 := by
      rw [mM_takenBack_L5, if_neg (by rw [l4]; exact nI_ge (by omega) (by omega)), h8, M_cyc τ (nI j) a ha, jbn_s]
      by_cases h0 : mcy τ (nI j) a = 0
      · refine ⟨x, ?_, hx, isMin_c (fun k => ⟨Or.inl, fun z => z.elim id (fun z => by omega)⟩) hP⟩
        rw [h0, mM_takenBack_L29, if_neg (nI_nlt (by omega) (by omega)), if_pos (by decide), nI_1]
      · obtain ⟨b, hb⟩ : ∃ b, mcy τ (nI j) a = b + 1 := ⟨mcy τ (nI j) a - 1, by omega⟩
        obtain ⟨x', z, k1, k2, k3⟩ := M_tb_L (fun z12 z13 => mM_takenBack_L5 τ f r fuel z12 (nI j + 1)) τ f r (nI j) a b ha (a - b) 999 P x (by omega) (by omega) hP hx
        rw [show b + (a - b) = a by omega] at k1 k3
        refine ⟨x', by rw [hb, k1, nI_1], k2, isMin_c (fun k => ?_) k3⟩
        rw [hb]
        constructor
        · rintro (g | ⟨g1, g2, g3⟩)
          · exact Or.inl g
          · exact Or.inr ⟨by omega, g1, g2, g3⟩
        · rintro (g | ⟨g0, g1, g2, g3⟩)
          · exact Or.inl g
          · exact Or.inr ⟨g1, g2, g3⟩
    obtain ⟨x1, m1, m2, m3⟩ := mid
    obtain ⟨x', k1, k2, k3⟩ := M_tb_J τ f r a ha h8 e (j + 1) fuel _ x1 (by omega) (by omega) m3 m2
    refine ⟨x', by rw [m1, k1], k2, isMin_c (fun k => ?_) k3⟩
    constructor
    · rintro ((g | g) | ⟨i, g1, g2, g3⟩)
      · exact Or.inl g
      · exact Or.inr ⟨j, Nat.le_refl _, by omega, g⟩
      · exact Or.inr ⟨i, by omega, g2, g3⟩
    · rintro (g | ⟨i, g1, g2, g3⟩)
      · exact Or.inl (Or.inl g)
      · by_cases hi : i = j
        · subst hi; exact Or.inl (Or.inr g3)
        · exact Or.inr ⟨i, by omega, g2, g3⟩
theorem mtd_min (τ : JS) (f r : Int32) (a : Nat) : ∀ (e : Nat) (v : Int32) (x : Nat), isMin (fun k => 1 ≤ k ∧ k ≤ e ∧ (τ 4 k = 1 ∧ τ 6 k = f ∧ τ 7 k = r ∧ 0 < mcy τ (τ 5 k) a ∧ mcy τ (τ 5 k) a ≤ k)) x → mtd τ f r a e v = if x = 0 then v else τ 8 x
  | 0, v, x, h => by
    rcases h with ⟨h1, h2⟩ | ⟨h1, ⟨g1, g2, -⟩, h3⟩
    · rw [if_pos h1]; rfl
    · omega
  | e + 1, v, x, h => by
    rw [mtd]
    by_cases hP : τ 4 (e + 1) = 1 ∧ τ 6 (e + 1) = f ∧ τ 7 (e + 1) = r ∧ 0 < mcy τ (τ 5 (e + 1)) a ∧ mcy τ (τ 5 (e + 1)) a ≤ e + 1
    · rw [if_pos hP]
      rcases h with ⟨h1, h2⟩ | ⟨h1, ⟨g1, g2, g3⟩, h3⟩
      · exact absurd ⟨by omega, Nat.le_refl _, hP⟩ (h2 (e + 1))
      · by_cases hx : x = e + 1
        · rw [mtd_min τ f r a e _ 0 (Or.inl ⟨rfl, fun k hk => by have := h3 k ⟨hk.1, by omega, hk.2.2⟩; omega⟩), if_pos rfl, if_neg (by omega), hx]
        · rw [mtd_min τ f r a e _ x (Or.inr ⟨h1, ⟨g1, by omega, g3⟩, fun k hk => h3 k ⟨hk.1, by omega, hk.2.2⟩⟩), if_neg (by omega), if_neg (by omega)]
    · rw [if_neg hP]
      refine mtd_min τ f r a e v x (isMin_c (fun k => ⟨fun hk => ⟨hk.1, ?_, hk.2.2⟩, fun hk => ⟨hk.1, by omega, hk.2.2⟩⟩) h)
      by_cases hk2 : k = e + 1
      · rw [hk2] at hk; exact absurd hk.2.2 hP
      · omega
theorem O_remote : jo_remote JInv := by
  intro σ τ x1 x2 h
  have hJ := J_thr 0 h
  have hJ2 := hJ
  obtain ⟨n, c, d, w, l, a, hI⟩ := hJ2
  have hn := (tR_n hI.2.2.2.2.2.1).1
  obtain ⟨a1, a2, a3, a4, a5, a6, a7, a8, a9, a10, a11⟩ := hI.2.2.2.2.2.2.2.1
  unfold mH_remote mM_remote
  rw [jst_n]
  generalize jw2 τ 100 0 0 = τ' at *
  rcases M_rec0 σ _ n c d w l a hI x1 x2 with ⟨f, r, hf, hr, hc, rfl, rfl, e1, e2⟩ | ⟨e1, e2⟩
  · refine ⟨(σ 24 (8 * f + r)).toInt64, τ', ?_, ?_, hJ⟩
    · unfold mH_cellOf
      rw [e1, jbn_s, if_neg n10, jbn_s, l8, pk_mul, nI_add, Nat.mul_comm f 8, jrd_n _ _ _ _ _ (by omega) (by decide)]
    · rw [e2, jbn_s, if_neg n10, ← a10]
      unfold mM_remote_J35
      rcases a11 with ⟨b1, b2'⟩ | ⟨b1, b2'⟩
      · rw [b1, if_pos rfl, if_pos (by decide), a8, M_val _ _ _ a (by omega), jbn_s, b2' f r (by omega) hr]
      · rw [b1, if_neg n10]
        unfold mM_takenBack
        obtain ⟨x', k1, k2, k3⟩ := M_tb_J τ' (nI f) (nI r) a (by omega) a8 4 0 999 (fun _ => False) 0 (by omega) (by omega) (Or.inl ⟨rfl, fun _ h => h⟩) (by omega)
        rw [nI_0] at k1
        rw [k1, jbn_s, b2' f r (by omega) hr, mtd_min τ' (nI f) (nI r) a a _ x' (isMin_c (fun k => ?_) k3)]
        · by_cases h0 : x' = 0
          · rw [h0, if_pos (by decide), if_pos rfl, a8, M_val _ _ _ a (by omega), jbn_s]
          · rw [if_neg (nI_nle (by omega) (by omega)), if_neg h0, jrd_n _ _ _ _ _ (by omega) (by decide)]
        · constructor
          · rintro (g | ⟨i, g1, g2, g3, g4, g5, g6, g7, g8⟩)
            · exact g.elim
            · exact ⟨by omega, g5, mcy_kd τ' (nI i) a k g3 g4 g5 g6, g7, g8, by rw [g6]; exact g3, by rw [g6]; exact g4⟩
          · rintro ⟨g1, g2, g3, g4, g5, g6, g7⟩
            obtain ⟨i, hi, ht⟩ := (hI.1.1.2.2 k g1 (by omega)).2.2.1
            rw [ht] at g6 g7
            exact Or.inr ⟨i, Nat.zero_le _, hi, g6, g7, g2, ht, g4, g5⟩
  · refine ⟨1099511627776, τ', ?_, ?_, hJ⟩
    · rw [e1, jbn_s, if_pos rfl]
    · rw [e2, jbn_s, if_pos rfl]
