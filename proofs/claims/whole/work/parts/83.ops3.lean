theorem room_le {a b z : Nat} (ha : a < 2 ^ 20) (hb : b < 2 ^ 20) (hz : z < 2 ^ 20) : nI a ≤ (nI b - nI z) - 1 ↔ a + z + 1 ≤ b := by
  rw [Int32.le_iff_toInt_le, Int32.toInt_sub, pk_sub_toInt (by omega) (by omega), nI_toInt (by omega), show (1 : Int32).toInt = 1 from rfl, Int.bmod_eq_of_le (by omega) (by omega)]
  omega
theorem tI_step {σ σ' τ τ' : JS} {n n' c d w w' l a : Nat} (h : tI σ τ n c d w l a) (hu : σ 100 8 = 1) (hv : τ 100 5 = 0) (hX : tX σ' τ' n' c d w') (hn : n ≤ n') (hs : jsame τ τ' n) (hσ : ∀ a, 18 < a → a < 26 → σ' a = σ a) (h1 : ∀ q, q ≠ 0 → q ≠ 2 → σ' 100 q = σ 100 q) (hτ : ∀ a, 11 < a → a < 16 → τ' a = τ a) (h2 : ∀ q, q ≠ 0 → q ≠ 2 → q ≠ 6 → τ' 100 q = τ 100 q) (hF : tF σ' τ' n' c) (hR : tR σ' τ' n' d) : tI σ' τ' n' c d w' l a := by
  obtain ⟨hA, hD, hP, hQ⟩ := hX
  obtain ⟨_, _, _, _, _, _, hK, hL, h7⟩ := h
  exact ⟨hA, hD, hP, Or.inl ⟨by rw [h1 8 (by decide) (by decide)]; exact hu, by rw [h2 5 (by decide) (by decide) (by decide)]; exact hv, hQ⟩, hF, hR, tK_fr (fun a g1 g2 => hσ a g1 (by omega)) (fun a g1 g2 => hτ a g1 (by omega)) hs hn (Nat.le_refl _) hK, tL_fr (fun a g1 g2 => hσ a (by omega) g2) (fun q g1 g2 => h1 q (by omega) (by omega)) (fun a g1 g2 => hτ a (by omega) g2) (fun q g1 g2 => h2 q (by omega) (by omega) (by omega)) hs hn hL, by rw [h1 7 (by decide) (by decide), h2 4 (by decide) (by decide) (by decide)]; exact h7⟩
theorem mr1_put {τ τ' : JS} {n j : Nat} (hs : jsame τ τ' n) (hj : j < 4) (h4 : τ' 4 (n + 1) = 1) (h5 : τ' 5 (n + 1) = nI j) (i : Nat) (hi : i < 4) : mr1 τ' i (n + 1) = if i = j then mcn τ (nI j) n + 2 else mr1 τ i n := by
  unfold mr1
  rw [mcn_new hs]
  by_cases h : i = j
  · subst h
    rw [if_pos h5, if_pos h4, if_pos rfl, if_neg (by omega)]
  · rw [if_neg (fun z => h (nI_inj (by omega) (by omega) (h5.symm.trans z)).symm), if_neg h]
theorem mrs_put {τ τ' : JS} {n j : Nat} (hs : jsame τ τ' n) (hj : j < 4) (h4 : τ' 4 (n + 1) = 1) (h5 : τ' 5 (n + 1) = nI j) : mrs τ' (n + 1) = mrs τ n + (if mcn τ (nI j) n = 0 then 2 else 1) := by
  have e : mr1 τ j n = if mcn τ (nI j) n = 0 then 0 else mcn τ (nI j) n + 1 := rfl
  unfold mrs
  rw [mr1_put hs hj h4 h5 0 (by omega), mr1_put hs hj h4 h5 1 (by omega), mr1_put hs hj h4 h5 2 (by omega), mr1_put hs hj h4 h5 3 (by omega)]
  rcases (show j = 0 ∨ j = 1 ∨ j = 2 ∨ j = 3 by omega) with rfl | rfl | rfl | rfl <;> simp only [if_pos, if_neg, Nat.reduceEqDiff, reduceIte] <;> split at e <;> rename_i hz <;> simp only [hz, reduceIte] <;> omega
theorem mrs_close {τ τ' : JS} {n n' j : Nat} (hj : j < 4) (ho : ∀ i : Nat, i < 4 → i ≠ j → mcn τ' (nI i) n' = mcn τ (nI i) n) (h0 : mcn τ' (nI j) n' = 0) (hp : 0 < mcn τ (nI j) n) : mrs τ' n' + mcn τ (nI j) n + 1 = mrs τ n := by
  have e : ∀ i : Nat, i < 4 → mr1 τ' i n' = if i = j then 0 else mr1 τ i n := fun i hi => by
    by_cases h : i = j
    · subst h
      unfold mr1
      rw [h0, if_pos rfl, if_pos rfl]
    · rw [if_neg h]
      unfold mr1
      rw [ho i hi h]
  have e2 : mr1 τ j n = mcn τ (nI j) n + 1 := by
    unfold mr1
    rw [if_neg (by omega)]
  unfold mrs
  rw [e 0 (by omega), e 1 (by omega), e 2 (by omega), e 3 (by omega)]
  rcases (show j = 0 ∨ j = 1 ∨ j = 2 ∨ j = 3 by omega) with rfl | rfl | rfl | rfl <;> simp only [Nat.reduceEqDiff, reduceIte] <;> omega
theorem O_change : jo_change JInv := by
  intro σ τ x1 x2 x3 x4 h
  have hJ := fun y => J_thr y h
  obtain ⟨n, c, d, w, l, a, hI⟩ := h
  have hI0 := tI_thr 0 hI
  have hI1 := hI
  obtain ⟨hA, hD, hP, hU, hF, hR, hK, hL, h7⟩ := hI1
  obtain ⟨hn, hd15⟩ := tR_n hR
  have hc := hF.2.2.1
  unfold mH_change mM_change
  have bad1 : ∃ (ko : Nat) (vo : Int32) (σo : JS) (w : Int32) (τo : JS), some (1, 0, σ) = some (ko, vo, σo) ∧ mM_change_J23 τ x1 x2 x3 x4 = some (w, τo) ∧ τo 100 0 = zR ko ∧ (ko = 0 → vo = w) ∧ JInv σo τo := by
    refine ⟨1, 0, σ, 0, jw2 τ 100 0 1, rfl, ?_, rfl, fun h => absurd h (by decide), hJ 1⟩
    unfold mM_change_J23 mM_change_J24
    rw [jst_n, thr_0, if_neg (by decide)]
  have bad2 : ∀ (X : Option (Int32 × JS)), X = some (0, jw2 (jw2 τ 100 0 0) 100 0 2) → ∃ (ko : Nat) (vo : Int32) (σo : JS) (w : Int32) (τo : JS), some (2, 0, σ) = some (ko, vo, σo) ∧ X = some (w, τo) ∧ τo 100 0 = zR ko ∧ (ko = 0 → vo = w) ∧ JInv σo τo := by
    intro X hX
    exact ⟨2, 0, σ, 0, jw2 (jw2 τ 100 0 0) 100 0 2, rfl, hX, rfl, fun h => absurd h (by decide), J_thr 2 (hJ 0)⟩
  rcases Q_job σ τ x1 with ⟨j, hj, rfl, e1, e2⟩ | ⟨e1, e2⟩
  · rw [e1, e2, jbn_s, jbn_s, if_neg n10, if_neg n10]
    rcases M_rec0 σ τ n c d w l a hI x2 x3 with ⟨f, r, hf, hr, hc, rfl, rfl, e1, e2⟩ | ⟨e1, e2⟩
    · rw [e1, e2, jbn_s, jbn_s, if_neg n10, if_neg n10]
      unfold mH_cellOf
      rw [jbn_s, l8, pk_mul, nI_add, Nat.mul_comm f 8]
      unfold mM_change_J24
      rw [jst_n, thr_0, if_pos (show (0 : Int32) ≤ 0 by decide)]
      obtain ⟨hA0, hD0, hP0, hU0, hF0, hR0, hK0, hL0, h70⟩ := hI0
      rw [M_res _ n hA0.1.2.1 hn, jbn_s, M_cnt _ (nI j) n hA0.1.2.1 hn, jbn_s]
      have hcn := (mcn_le (jw2 τ 100 0 0) (nI j) n).2
      have hcy := mcn_mcy (jw2 τ 100 0 0) (nI j) n
      have hrs0 := hR0.2.2.2.1
      have hcap := mcap_le d
      have hmod : ∀ y : Nat, y = (if mcn (jw2 τ 100 0 0) (nI j) n = 0 then 2 else 1) → (if nI (mcn (jw2 τ 100 0 0) (nI j) n) ≤ 0 then mM_change_J53 (jw2 τ 100 0 0) (nI j) (nI f) (nI r) x4 (2 : Int32) (nI (mrs (jw2 τ 100 0 0) n)) else mM_change_J53 (jw2 τ 100 0 0) (nI j) (nI f) (nI r) x4 (1 : Int32) (nI (mrs (jw2 τ 100 0 0) n))) = mM_change_J53 (jw2 τ 100 0 0) (nI j) (nI f) (nI r) x4 (nI y) (nI (mrs (jw2 τ 100 0 0) n)) := by
        intro y hy
        by_cases h0 : mcn (jw2 τ 100 0 0) (nI j) n = 0
        · rw [if_pos h0] at hy
          rw [h0, if_pos (by decide), hy]; rfl
        · rw [if_neg h0] at hy
          rw [if_neg (nI_nle (by omega) (by omega)), hy]; rfl
      rw [hmod _ rfl]
      have hyb : (if mcn (jw2 τ 100 0 0) (nI j) n = 0 then 2 else 1) ≤ 2 := by split <;> omega
      generalize hy : (if mcn (jw2 τ 100 0 0) (nI j) n = 0 then 2 else 1) = y at hyb
      unfold mM_change_J53 mM_refuse
      rw [M_lk _ (nI j) (nI f) (nI r) n hA0.1.2.1 hn, M_room _ n d hA0.1.2.1 hR0.2.1 (by omega), nI_add, jbn_s]
      have href : mJ_refusesChangeBy σ (nI j) = some (b2 (¬ (n + 1 + (mrs (jw2 τ 100 0 0) n + y) ≤ mcap d))) := by
        have hq : ∀ y' : Nat, y' ≤ 2 → ((nI (mrs (jw2 τ 100 0 0) n) + nI y' ≤ (nI (mcap d) - nI n) - nI 1) ↔ n + 1 + (mrs (jw2 τ 100 0 0) n + y') ≤ mcap d) := fun y' hy' => by
          rw [nI_add, show nI 1 = (1 : Int32) from rfl, room_le (by omega) (by omega) (by omega)]
          omega
        unfold mJ_refusesChangeBy
        rw [H_open σ _ n j hA0.2.1 hn (by omega), jbn_s, H_room σ n d hA.1.1 hR.1 (by omega), jbn_s, H_res σ _ n hA0.2.1 hn hR0.2.2.2.2.1, jbn_s, jbn_s, jbn_s, l2, l1]
        by_cases h0 : mcn (jw2 τ 100 0 0) (nI j) n = 0
        · rw [if_pos h0] at hy
          subst hy
          rw [if_pos (b2_f (by omega))]
          by_cases hz : n + 1 + (mrs (jw2 τ 100 0 0) n + 2) ≤ mcap d
          · rw [if_pos ((hq 2 (by omega)).mpr hz), b2_f (fun g => g hz)]
          · rw [if_neg (fun g => hz ((hq 2 (by omega)).mp g)), b2_t hz]; rfl
        · rw [if_neg h0] at hy
          subst hy
          rw [if_neg (by rw [b2_t (by omega)]; decide)]
          by_cases hz : n + 1 + (mrs (jw2 τ 100 0 0) n + 1) ≤ mcap d
          · rw [if_pos ((hq 1 (by omega)).mpr hz), b2_f (fun g => g hz)]
          · rw [if_neg (fun g => hz ((hq 1 (by omega)).mp g)), b2_t hz]; rfl
      rw [H_lk σ _ n c d hA0 hn hR0.2.2.1 hR.1 hR0.2.2.2.2.2 j f r (by omega) hr hc, jbn_s, href, jbn_s]
      have hu00 := hU0
      rcases hU0 with ⟨u1, u2, u3⟩ | ⟨u1, u2, u3⟩
      · rw [u1, u2, if_neg n10, if_pos (show (0 : Int32) = 0 from rfl)]
        by_cases hlk : mlk (jw2 τ 100 0 0) (nI j) (nI f) (nI r) n
        · rw [b2_t hlk, if_neg n10, if_neg n10]
          exact bad2 _ rfl
        · rw [b2_f hlk, if_pos rfl, if_pos rfl]
          by_cases hz : n + 1 + (mrs (jw2 τ 100 0 0) n + y) ≤ mcap d
          · rw [b2_f (fun g => g hz), if_pos rfl, jbn_s, if_pos ((room_le (by omega) (by omega) (by omega)).mpr (by omega)), jwr_n _ _ _ _ _ _ (by omega) (by decide)]
            -- the change
            have hτ2 : ∀ a, 2 < a → jw2 (jw2 τ 100 0 0) 2 f (-1) a = jw2 τ 100 0 0 a := fun a h => by unfold jw2; rw [if_neg (by omega)]
            have hX : tX σ (jw2 (jw2 τ 100 0 0) 2 f (-1)) n c d w := ⟨tA_fr (fun _ _ _ => rfl) rfl (fun a h1 h2 => hτ2 a (by omega)) rfl hA0, tD_fr (fun _ _ _ => rfl) rfl (fun a h1 h2 => hτ2 a (by omega)) rfl hD0, tP_fr rfl (fun a h1 h2 => hτ2 a (by omega)) hP0, tQ_fr (fun _ _ _ => rfl) (fun a h1 h2 => hτ2 a (by omega)) u3⟩
            obtain ⟨σ', τ', w', k1, k2, k3, k4, k5, k6, k7, k8, k9, k10, k11, k12, k13, k14⟩ := t_put (j := j) x4 hc hR0.2.2.1 (by omega) hX (by omega) hf hr
            have hs0 : jsame (jw2 τ 100 0 0) (jw2 (jw2 τ 100 0 0) 2 f (-1)) n := jsame_rows (fun a h1 h2 => hτ2 a (by omega)) n
            have hs : jsame (jw2 τ 100 0 0) τ' n := fun k q1 q2 => by
              obtain ⟨z4, z5, z6, z7, z8, z9⟩ := k9 k q1 q2
              obtain ⟨y4, y5, y6, y7, y8, y9⟩ := hs0 k q1 q2
              rw [z4, z5, z6, z7, z8, z9]
              exact ⟨y4, y5, y6, y7, y8, y9⟩
            rw [k1, k2, jbn_s, jbn_s, k3.1.1.1, k3.1.1.2.1]
            refine ⟨0, nI (n + 1), σ', nI (n + 1), τ', rfl, rfl, by rw [k8 0 (by decide) (by decide)]; rfl, fun _ => rfl, n + 1, c, d, w', l, a, ?_⟩
            have s27 : ∀ x, σ' 27 x = if x = f then -1 else σ 27 x := fun x => by
              rw [k6 x]
              by_cases hx : x = f
              · rw [if_pos hx, if_pos ⟨by omega, hx⟩]
              · rw [if_neg hx, if_neg (fun z => hx z.2)]
            have m2 : ∀ x, τ' 2 x = if x = f then -1 else jw2 τ 100 0 0 2 x := fun x => by
              rw [k7 2 (by decide) (by decide), jw2_at, if_pos rfl]
            refine tI_step ⟨hA0, hD0, hP0, hu00, hF0, hR0, hK0, hL0, h70⟩ u1 u2 k3 (by omega) hs (fun a g1 g2 => k4 a g1 (by omega) (by omega)) k5 (fun a g1 g2 => by rw [k7 a (by omega) (by omega), hτ2 a (by omega)]) (fun q g0 g1 g2 => by rw [k8 q g1 g2]; rfl) ?_ ?_
            · obtain ⟨f1, f2, f3, f4, f5, f6⟩ := hF0
              refine ⟨by rw [k5 6 (by decide) (by decide)]; exact f1, by rw [k8 1 (by decide) (by decide)]; exact f2, f3, fun g hg => ?_, fun g hg => ?_, fun g hg => ?_⟩
              · rw [s27, m2, (f4 g hg).1, k4 28 (by decide) (by decide) (by decide), k7 3 (by decide) (by decide), hτ2 3 (by decide)]
                exact ⟨rfl, (f4 g hg).2⟩
              · rw [k4 26 (by decide) (by decide) (by decide), k7 1 (by decide) (by decide)]
                exact f5 g hg
              · unfold tS
                rw [s27]
                by_cases hgf : g = f
                · rw [if_pos hgf]; exact Or.inl rfl
                · rw [if_neg hgf]
                  have hne : ¬ τ' 6 (n + 1) = nI g := fun z => hgf (nI_inj (by omega) (by omega) (k12.symm.trans z)).symm
                  rcases f6 g hg with h | ⟨m, h3, h4, h5, h6⟩
                  · exact Or.inl h
                  · exact Or.inr ⟨m, by omega, h4, by rw [mob_put hs k10 _ hne]; exact h5, fun r hr hlt => by rw [k7 1 (by decide) (by decide)] at hlt; rw [mvl_new hs, if_neg (fun z => hne z.2.1), mvl_same _ _ (hs.lt h3)]; exact h6 r hr hlt⟩
            · obtain ⟨r1, r2, r3, r4, r5, r6⟩ := hR0
              refine ⟨by rw [k5 1 (by decide) (by decide)]; exact r1, by rw [k8 3 (by decide) (by decide)]; exact r2, by omega, by rw [mrs_put hs (by omega) k10 k11, hy]; omega, ?_, fun i hi => ?_⟩
              · rw [mcy_new hs, if_neg (fun z => by have := nI_inj (by omega) (by omega) (k11.symm.trans z); omega)]
                exact r5
              · rw [mcy_new hs]
                by_cases hij : τ' 5 (n + 1) = nI i
                · rw [if_pos hij, if_pos k10]
                  rcases r6 i hi with z | z
                  · rw [if_pos z]; omega
                  · rw [if_neg (by omega)]; exact Or.inr z
                · rw [if_neg hij]; exact r6 i hi
          · rw [b2_t hz, if_neg n10, jbn_s, if_neg (fun g => hz (by have := (room_le (by omega) (by omega) (by omega)).mp g; omega))]
            exact bad2 _ rfl
      · rw [u1, u2, if_pos rfl, if_neg n10]
        exact bad2 _ rfl
    · rw [e1, e2, jbn_s, jbn_s, if_pos rfl, if_pos rfl]
      exact bad1
  · rw [e1, e2, jbn_s, jbn_s, if_pos rfl, if_pos rfl]
    exact bad1
