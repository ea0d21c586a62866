theorem n10 : ¬ (1 : Int32) = 0 := by decide
theorem tA_mono {σ τ : JS} {n c c' : Nat} (hc : c ≤ c') (h : tA σ τ n c) : tA σ τ n c' := by
  obtain ⟨⟨a1, a2, a3⟩, h2⟩ := h
  refine ⟨⟨a1, a2, fun k k1 k2 => ?_⟩, h2⟩
  obtain ⟨b1, b2, b3, b4⟩ := a3 k k1 k2
  refine ⟨b1, b2, b3, fun h => ?_⟩
  obtain ⟨e1, e2, e3, f, r, hf, e4⟩ := b4 h
  exact ⟨e1, e2, e3, f, r, by omega, e4⟩
theorem tI_fr {σ σ' τ τ' : JS} {n c c' d w l a l' a' : Nat} (h : tI σ τ n c d w l a) (hσ : ∀ a, 5 < a → a < 19 → σ' a = σ a) (h1 : ∀ q, q < 3 ∨ q = 8 → σ' 100 q = σ 100 q) (hτ : ∀ a, 3 < a → a < 12 → τ' a = τ a) (h2 : ∀ q, q = 2 ∨ q = 3 ∨ q = 5 ∨ q = 6 → τ' 100 q = τ 100 q) (hc : c ≤ c') (hF : tF σ' τ' n c') (hK : tK σ' τ' n c') (hL : tL σ' τ' n l' a') (h7 : σ' 100 7 = τ' 100 4) : tI σ' τ' n c' d w l' a' := by
  obtain ⟨hA, hD, hP, hU, hF0, hR, hK0, hL0, h70⟩ := h
  have hs : jsame τ τ' n := jsame_rows (fun a h1 h2 => hτ a h1 (by omega)) n
  exact ⟨tA_mono hc (tA_fr (fun a h1 h2 => hσ a h1 (by omega)) (h1 0 (by omega)) (fun a h1 h2 => hτ a h1 (by omega)) (h2 2 (by omega)) hA), tD_fr (fun a h1 h2 => hσ a (by omega) h2) (h1 2 (by omega)) hτ (h2 6 (by omega)) hD, tP_fr (hσ 16 (by decide) (by decide)) (fun a h1 h2 => hτ a h1 (by omega)) hP, tUp_fr (fun a h1 h2 => hσ a (by omega) h2) (h1 8 (by omega)) (fun a h1 h2 => hτ a h1 (by omega)) (h2 5 (by omega)) hU, hF, tR_fr (h1 1 (by omega)) (h2 3 (by omega)) hs hR, hK, hL, h7⟩
theorem O_file : jo_file JInv := by
  intro σ τ x1 h
  have hJ := fun y => J_thr y h
  obtain ⟨n, c, d, w, l, a, hI⟩ := h
  have hI2 := hI
  obtain ⟨hA, hD, hP, hU, hF, hR, hK, hL, h7⟩ := hI2
  have hn := (tR_n hR).1
  obtain ⟨f1, f2, f3, f4, f5, f6⟩ := hF
  unfold mH_file mM_file mM_within
  have bad1 : ∃ (ko : Nat) (vo : Int32) (σo : JS) (w : Int32) (τo : JS), some (1, 0, σ) = some (ko, vo, σo) ∧ mM_file_J35 τ x1 1 = some (w, τo) ∧ τo 100 0 = zR ko ∧ (ko = 0 → vo = w) ∧ JInv σo τo := by
    refine ⟨1, 0, σ, 0, jw2 τ 100 0 1, rfl, ?_, rfl, fun h => absurd h (by decide), hJ 1⟩
    unfold mM_file_J35
    rw [jst_n, thr_0, if_neg (by decide)]
  have bad2 : ∃ (ko : Nat) (vo : Int32) (σo : JS) (w : Int32) (τo : JS), some (2, 0, σ) = some (ko, vo, σo) ∧ mM_file_J30 τ x1 = some (w, τo) ∧ τo 100 0 = zR ko ∧ (ko = 0 → vo = w) ∧ JInv σo τo := by
    refine ⟨2, 0, σ, 0, jw2 τ 100 0 2, rfl, ?_, rfl, fun h => absurd h (by decide), hJ 2⟩
    unfold mM_file_J30 mM_file_J35
    rw [jst_n, thr_0, if_neg (by decide)]
  by_cases hx1 : x1 < 1
  · rw [if_pos hx1, if_pos hx1, jbn_s, if_pos rfl]
    exact bad1
  · rw [if_neg hx1, if_neg hx1]
    have hx0 : ¬ x1 < 0 := fun z => hx1 (neg_lt z 1 (by omega))
    obtain ⟨z, hz, rfl⟩ := nI_of hx0
    have hz1 : 1 ≤ z := by
      by_cases hz1 : 1 ≤ z
      · exact hz1
      · exact absurd (nI_lt (a := z) (b := 1) (by omega) (by omega)) hx1
    by_cases hx8 : z ≤ 8
    · rw [if_pos (show nI z ≤ (8 : Int32) from nI_le (b := 8) hx8 (by omega)), if_neg (show ¬ (8 : Int32) < nI z from nI_nlt (a := 8) hx8 (by omega)), jbn_s, if_neg n10]
      rcases hU with ⟨u1, u2, u3⟩ | ⟨u1, u2, u3⟩
      · rw [u1, u2, if_neg (show ¬ (1 : Int32) = 0 by decide), if_pos (show (0 : Int32) = 0 from rfl), f1, f2]
        by_cases hc3 : c = 3
        · subst hc3
          rw [if_pos (by decide), if_pos (by decide)]
          exact bad2
        · rw [if_neg (show ¬ nI c = (3 : Int32) from fun z => hc3 (nI_inj (b := 3) (by omega) (by omega) z)), if_neg (show ¬ nI c = (3 : Int32) from fun z => hc3 (nI_inj (b := 3) (by omega) (by omega) z)), jwr_n _ _ _ _ _ _ (by omega) (by decide), jwr_n _ _ _ _ _ _ (by omega) (by decide), jst_n]
          rw [show jw2 (jw2 σ 26 c (nI z)) 27 c (-1) 100 6 = nI c from f1, nI_1]
          have hmod : mM_file_J35 τ (nI z) 0 = some (nI c, jw2 (jw2 (jw2 (jw2 τ 100 0 0) 1 c (nI z)) 2 c (-1)) 100 1 (nI (c + 1))) := by
            unfold mM_file_J35
            rw [jst_n, thr_0, if_pos (by decide), show jw2 τ 100 0 0 100 1 = nI c from f2, jwr_n _ _ _ _ _ _ (by omega) (by decide)]
            rw [show jw2 (jw2 τ 100 0 0) 1 c (nI z) 100 1 = nI c from f2, jwr_n _ _ _ _ _ _ (by omega) (by decide), jst_n]
            rw [show jw2 (jw2 (jw2 τ 100 0 0) 1 c (nI z)) 2 c (-1) 100 1 = nI c from f2, nI_1]
            rw [show jw2 (jw2 (jw2 (jw2 τ 100 0 0) 1 c (nI z)) 2 c (-1)) 100 1 (nI (c + 1)) 100 1 = nI (c + 1) by simp [jw2_at], nI_pred]
          refine ⟨0, nI c, jw2 (jw2 (jw2 σ 26 c (nI z)) 27 c (-1)) 100 6 (nI (c + 1)), nI c, jw2 (jw2 (jw2 (jw2 τ 100 0 0) 1 c (nI z)) 2 c (-1)) 100 1 (nI (c + 1)), rfl, hmod, rfl, fun _ => rfl, n, c + 1, d, w, l, a, ?_⟩
          have s26 : ∀ x, jw2 (jw2 (jw2 σ 26 c (nI z)) 27 c (-1)) 100 6 (nI (c + 1)) 26 x = if x = c then nI z else σ 26 x := fun x => by simp only [jw2_at]; simp
          have s27 : ∀ x, jw2 (jw2 (jw2 σ 26 c (nI z)) 27 c (-1)) 100 6 (nI (c + 1)) 27 x = if x = c then -1 else σ 27 x := fun x => by simp only [jw2_at]; simp
          have t1 : ∀ x, jw2 (jw2 (jw2 (jw2 τ 100 0 0) 1 c (nI z)) 2 c (-1)) 100 1 (nI (c + 1)) 1 x = if x = c then nI z else τ 1 x := fun x => by simp only [jw2_at]; simp
          have t2 : ∀ x, jw2 (jw2 (jw2 (jw2 τ 100 0 0) 1 c (nI z)) 2 c (-1)) 100 1 (nI (c + 1)) 2 x = if x = c then -1 else τ 2 x := fun x => by simp only [jw2_at]; simp
          have hσ : ∀ a, a < 26 ∨ 27 < a → a ≠ 100 → jw2 (jw2 (jw2 σ 26 c (nI z)) 27 c (-1)) 100 6 (nI (c + 1)) a = σ a := fun a h h2 => by unfold jw2; rw [if_neg (by omega), if_neg (by omega), if_neg (by omega)]
          have hσ1 : ∀ q, q ≠ 6 → jw2 (jw2 (jw2 σ 26 c (nI z)) 27 c (-1)) 100 6 (nI (c + 1)) 100 q = σ 100 q := fun q h => by rw [jw2_at, if_pos rfl, if_neg h]; rfl
          have hτ : ∀ a, 2 < a → a ≠ 100 → jw2 (jw2 (jw2 (jw2 τ 100 0 0) 1 c (nI z)) 2 c (-1)) 100 1 (nI (c + 1)) a = τ a := fun a h h2 => by unfold jw2; rw [if_neg (by omega), if_neg (by omega), if_neg (by omega), if_neg (by omega)]
          have hτ1 : ∀ q, q ≠ 0 → q ≠ 1 → jw2 (jw2 (jw2 (jw2 τ 100 0 0) 1 c (nI z)) 2 c (-1)) 100 1 (nI (c + 1)) 100 q = τ 100 q := fun q h0 h => by
            rw [jw2_at, if_pos rfl, if_neg h, jw2_at, if_neg (by decide), jw2_at, if_neg (by decide), jw2_at, if_pos rfl, if_neg h0]
          have hs : jsame τ (jw2 (jw2 (jw2 (jw2 τ 100 0 0) 1 c (nI z)) 2 c (-1)) 100 1 (nI (c + 1))) n := jsame_rows (fun a h1 h2 => hτ a (by omega) (by omega)) n
          refine tI_fr hI (fun a h1 h2 => hσ a (by omega) (by omega)) (fun q h => hσ1 q (by omega)) (fun a h1 h2 => hτ a (by omega) (by omega)) (fun q h => hτ1 q (by omega) (by omega)) (Nat.le_succ c) ?_ (tK_fr (fun a h1 h2 => hσ a (by omega) (by omega)) (fun a h1 h2 => hτ a (by omega) (by omega)) hs (Nat.le_refl _) (Nat.le_succ c) hK) (tL_fr (fun a h1 h2 => hσ a (by omega) (by omega)) (fun q h _ => hσ1 q (by omega)) (fun a h1 h2 => hτ a (by omega) (by omega)) (fun q h _ => hτ1 q (by omega) (by omega)) hs (Nat.le_refl _) hL) ?_
          · refine ⟨by simp [jw2_at], by simp [jw2_at], by omega, fun f hf => ?_, fun f hf => ?_, fun f hf => ?_⟩
            · rw [s27, t2, hσ 28 (by decide) (by decide), hτ 3 (by decide) (by decide), (f4 f hf).1]
              exact ⟨rfl, (f4 f hf).2⟩
            · rw [s26, t1]
              by_cases hfc : f = c
              · rw [if_pos hfc, if_pos hfc]
                exact ⟨z, hz1, hx8, rfl, rfl⟩
              · rw [if_neg hfc, if_neg hfc]
                exact f5 f (by omega)
            · unfold tS
              rw [s27]
              by_cases hfc : f = c
              · rw [if_pos hfc]; exact Or.inl rfl
              · rw [if_neg hfc]
                rcases f6 f (by omega) with h | ⟨m, h3, h4, h5, h6⟩
                · exact Or.inl h
                · exact Or.inr ⟨m, h3, h4, by rw [mob_same _ hs]; exact h5, fun r hr hlt => by rw [t1, if_neg hfc] at hlt; rw [mvl_same _ _ hs, mvl_same _ _ (hs.lt h3)]; exact h6 r hr hlt⟩
          · rw [hσ1 7 (by decide), hτ1 4 (by decide) (by decide)]
            exact h7
      · rw [u1, u2, if_pos rfl, if_neg n10]
        exact bad2
    · rw [if_neg (show ¬ nI z ≤ (8 : Int32) from nI_ge (a := 8) (by omega) (by omega)), if_pos (show (8 : Int32) < nI z from nI_lt (a := 8) (by omega) (by omega)), jbn_s, if_pos rfl]
      exact bad1
theorem O_entry : jo_entry JInv := by
  intro σ τ x1 x2 h
  have hJ := J_thr 0 h
  have hJ2 := hJ
  obtain ⟨n, c, d, w, l, a, hI⟩ := hJ2
  obtain ⟨hA, hD, hP, hU, hF, hR, hK, hL, h7⟩ := hI
  have hn := (tR_n hR).1
  have hd := hR.2.2.1
  have hc := hF.2.2.1
  unfold mH_entry mM_entry
  rw [jst_n]
  generalize jw2 τ 100 0 0 = τ' at *
  rcases Q_kept σ τ' x1 n d hA.1.1 hR.1 hA.1.2.1 hR.2.1 hn hd with ⟨k, k1, k2, rfl, e1, e2⟩ | ⟨e1, e2⟩
  · obtain ⟨t1, t2, t3, t4⟩ := hA.1.2.2 k (by omega) k2
    rw [e1, e2, jbn_s, jbn_s, if_neg (show ¬ (1 : Int32) = 0 by decide), if_neg (show ¬ (1 : Int32) = 0 by decide), jrd_n _ _ _ _ _ (by omega) (by decide), jrd_n _ _ _ _ _ (by omega) (by decide), jrd_n _ _ _ _ _ (by omega) (by decide), jrd_n _ _ _ _ _ (by omega) (by decide), t1, t2]
    have nope : ∀ y : Int32, (∀ q : Nat, q < 6 → y ≠ nI q) → (if y = 0 then some (τ' 4 k).toInt64 else if y = 1 then some (τ' 5 k).toInt64 else if τ' 4 k = 1 then jbn (mH_partOfChange σ (nI k) y) fun q12 => some q12 else some (1099511627776 : Int64)) = some 1099511627776 := by
      intro y hy
      unfold mH_partOfChange
      rw [if_neg (show ¬ y = 0 from hy 0 (by omega)), if_neg (show ¬ y = 1 from hy 1 (by omega)), if_neg (show ¬ y = 2 from hy 2 (by omega)), if_neg (show ¬ y = 3 from hy 3 (by omega)), if_neg (show ¬ y = 4 from hy 4 (by omega)), if_neg (show ¬ y = 5 from hy 5 (by omega)), jbn_s, ite_self]
    have w5 : ∀ q : Nat, q ≤ 5 → mM_within τ' (nI q) 0 5 = some 1 := fun q hq => W_in τ' q 5 hq (by omega)
    rcases sx x2 with h | ⟨q, hq, rfl⟩
    · refine ⟨_, τ', nope x2 (fun q hq => neg_ne h q (by omega)), ?_, hJ⟩
      rw [W_neg _ h, jbn_s, if_pos rfl]
    · by_cases hq6 : 6 ≤ q
      · refine ⟨_, τ', nope (nI q) (fun i hi z => by have := nI_inj hq (by omega) z; omega), ?_, hJ⟩
        rw [show (5 : Int32) = nI 5 from rfl, W_out τ' q 5 (by omega) hq, jbn_s, if_pos rfl]
      · rw [w5 q (by omega), jbn_s, if_neg (show ¬ (1 : Int32) = 0 by decide)]
        unfold mM_entry_J41
        rw [jrd_n _ _ _ _ _ (by omega) (by decide), jrd_n _ _ _ _ _ (by omega) (by decide), jrd_n _ _ _ _ _ (by omega) (by decide), jrd_n _ _ _ _ _ (by omega) (by decide), jrd_n _ _ _ _ _ (by omega) (by decide), jrd_n _ _ _ _ _ (by omega) (by decide)]
        by_cases h4 : τ' 4 k = 1
        · obtain ⟨b1, b2', b3, f, r, hf, hr, g6, g7, g8⟩ := t4 h4
          unfold mH_partOfChange mH_fileOf mH_recordOf
          rw [jrd_n _ _ _ _ _ (by omega) (by decide), jrd_n _ _ _ _ _ (by omega) (by decide), jrd_n _ _ _ _ _ (by omega) (by decide), jrd_n _ _ _ _ _ (by omega) (by decide), g8, b1, b2', l8, jbn_s, jbn_s, pk_rem (by omega) (by omega) (by omega), pk_div (by omega) (by omega) (by omega), show (8 * f + r) / 8 = f by omega, show (8 * f + r) % 8 = r by omega, if_pos h4, if_pos h4, g6, g7]
          rcases (show q = 0 ∨ q = 1 ∨ q = 2 ∨ q = 3 ∨ q = 4 ∨ q = 5 by omega) with rfl | rfl | rfl | rfl | rfl | rfl
          · exact ⟨_, τ', rfl, rfl, hJ⟩
          · exact ⟨_, τ', rfl, rfl, hJ⟩
          · exact ⟨_, τ', rfl, rfl, hJ⟩
          · exact ⟨_, τ', rfl, rfl, hJ⟩
          · exact ⟨_, τ', rfl, rfl, hJ⟩
          · exact ⟨_, τ', rfl, rfl, hJ⟩
        · rw [if_neg h4, if_neg h4]
          rcases (show q = 0 ∨ q = 1 ∨ q = 2 ∨ q = 3 ∨ q = 4 ∨ q = 5 by omega) with rfl | rfl | rfl | rfl | rfl | rfl
          · exact ⟨_, τ', rfl, rfl, hJ⟩
          · exact ⟨_, τ', rfl, rfl, hJ⟩
          · exact ⟨_, τ', rfl, rfl, hJ⟩
          · exact ⟨_, τ', rfl, rfl, hJ⟩
          · exact ⟨_, τ', rfl, rfl, hJ⟩
          · exact ⟨_, τ', rfl, rfl, hJ⟩
  · rw [e1, e2, jbn_s, jbn_s, if_pos rfl, if_pos rfl]
    exact ⟨_, τ', rfl, rfl, hJ⟩
