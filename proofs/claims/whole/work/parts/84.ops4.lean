theorem t_commit {σ τ : JS} {n c d w j : Nat} (hn : n < 120) (hX : tX σ τ n c d w) (hj : j < 4) : ∃ (σ' τ' : JS), mJ_addEnd σ 2 (nI j) = some σ' ∧ mM_note τ 2 (nI j) 0 0 0 = some τ' ∧ tU σ τ n j c d σ' τ' (n + 1) w ∧ mcy τ' (nI j) (n + 1) = 0 := by
  obtain ⟨σ', τ', e1, e2, X3, a1, a2, a3, a4, a5, a6, a7⟩ := t_end (k := 2) hn hX hj (by decide)
  have h4 : ¬ τ' 4 (n + 1) = 1 := by rw [a6]; decide
  refine ⟨σ', τ', e1, e2, ⟨X3, by omega, fun a g1 g2 => a1 a (by omega) g2, fun q g1 g2 => a2 q g1, fun a g1 g2 => a3 a (by omega) g2, fun q g1 g2 => a4 q g1, a5, fun i hi => ?_, fun f' r' hf' hne => ?_⟩, ?_⟩
  · have hne : ¬ τ' 5 (n + 1) = i := fun z => hi (by rw [← z, a7])
    exact ⟨by rw [mcy_new a5, if_neg hne], by rw [mcn_new a5, if_neg hne], fun f' => by rw [mce_new a5, if_neg hne]⟩
  · rw [mvl_new a5, if_neg (fun z => h4 z.1)]
  · rw [mcy_new a5, if_pos a7, if_neg h4]
theorem mob_f {τ : JS} {f : Int32} {n : Nat} (h : mob τ f n = false) : ∀ j : Nat, j < 4 → mce τ (nI j) (mof τ f) n = false := fun j hj => by
  cases hz : mce τ (nI j) (mof τ f) n with
  | false => rfl
  | true =>
    have := (mon_mob τ f n).mp ⟨j, hj, hz⟩
    rw [h] at this
    cases this
theorem tF_shows {σ τ : JS} {n c : Nat} (hF : tF σ τ n c) (j : Nat) (hj : j < 4) : ∀ f : Nat, f < c → mce τ (nI j) (mof τ (nI f)) n = true → σ 27 f = -1 := fun f hf hm => by
  rcases hF.2.2.2.2.2 f hf with h | ⟨m, h3, h4, h5, h6⟩
  · exact h
  · rw [mob_f h5 j hj] at hm
    cases hm
theorem tI_close {σ τ σ' τ' : JS} {n c d w l a j n' w' : Nat} (h : tI σ τ n c d w l a) (hu : σ 100 8 = 1) (hv : τ 100 5 = 0) (hj : j < 4) (hp : 0 < mcy τ (nI j) n) (hU : tU σ τ n j c d σ' τ' n' w') (h0 : mcy τ' (nI j) n' = 0) (hn : n' ≤ n + mcn τ (nI j) n + 1) : tI σ' τ' n' c d w' l a := by
  obtain ⟨X, u1, u2, u3, u4, u5, u6, u7, u8⟩ := hU
  have hR := h.2.2.2.2.2.1
  have hF := h.2.2.2.2.1
  have hcn := mcn_mcy τ (nI j) n
  have hn0 := (mcn_mcy τ' (nI j) n').mpr h0
  have hne : ∀ i : Nat, i < 4 → i ≠ j → nI i ≠ nI j := fun i hi z q => z (nI_inj (by omega) (by omega) q)
  refine tI_step h hu hv X u1 u6 (fun a g1 g2 => u2 a g1 (by omega)) u3 (fun a g1 g2 => u4 a (by omega) (by omega)) (fun q g0 g1 g2 => u5 q g1 g2) ?_ ?_
  · refine tF_fr (tR_n hR).1 (fun a g1 g2 => u2 a (by omega) (by omega)) (u3 6 (by decide) (by decide)) (fun a g1 g2 => u4 a (by omega) (by omega)) (u5 1 (by decide) (by decide)) u6 u1 (fun f hf h27 hm => ⟨?_, fun r hr => u8 f r (by have := hF.2.2.1; omega) h27⟩) hF
    have e : ∀ i : Nat, i < 4 → mce τ' (nI i) (mof τ' (nI f)) n' = false := fun i hi => by
      by_cases hij : i = j
      · subst hij
        exact mce_cy0 _ _ _ _ h0
      · rw [(u7 (nI i) (hne i hi hij)).2.2]
        exact mob_f hm i hi
    unfold mob
    rw [e 0 (by omega), e 1 (by omega), e 2 (by omega), e 3 (by omega)]
    rfl
  · obtain ⟨r1, r2, r3, r4, r5, r6⟩ := hR
    have hm := mrs_close (τ := τ) (τ' := τ') (n := n) (n' := n') hj (fun i hi hij => (u7 (nI i) (hne i hi hij)).2.1) hn0 (by omega)
    refine ⟨by rw [u3 1 (by decide) (by decide)]; exact r1, by rw [u5 3 (by decide) (by decide)]; exact r2, by omega, by omega, ?_, fun i hi => ?_⟩
    · by_cases hij : 3 = j
      · rw [hij]; exact h0
      · rw [(u7 (nI 3) (hne 3 (by omega) hij)).1]; exact r5
    · by_cases hij : i = j
      · rw [hij]; exact Or.inl h0
      · rw [(u7 (nI i) (hne i hi hij)).1]; exact r6 i hi
theorem tI_X {σ τ : JS} {n c d w l a : Nat} (h : tI σ τ n c d w l a) (hu : σ 100 8 = 1) : tX σ τ n c d w := by
  obtain ⟨hA, hD, hP, hU, _⟩ := h
  rcases hU with ⟨u1, u2, u3⟩ | ⟨u1, u2, u3⟩
  · exact ⟨hA, hD, hP, u3⟩
  · rw [hu] at u1
    exact absurd u1 n10
theorem tR_cn {σ τ : JS} {n d : Nat} (h : tR σ τ n d) (j : Nat) (hj : j < 4) (hp : 0 < mcy τ (nI j) n) : n + mcn τ (nI j) n + 1 ≤ 120 := by
  have := mcap_le d
  have h2 := h.2.2.2.1
  have hcn := mcn_mcy τ (nI j) n
  have e : mr1 τ j n = mcn τ (nI j) n + 1 := by
    unfold mr1
    rw [if_neg (by omega)]
  unfold mrs at h2
  rcases (show j = 0 ∨ j = 1 ∨ j = 2 ∨ j = 3 by omega) with rfl | rfl | rfl | rfl <;> omega
/-- one cycle rolled back, on the whole -/
theorem tI_undo {σ τ : JS} {n c d w l a j : Nat} (h : tI σ τ n c d w l a) (hu : σ 100 8 = 1) (hv : τ 100 5 = 0) (hj : j < 4) (hp : 0 < mcy τ (nI j) n) : ∃ (σ' τ' : JS) (n' w' : Nat), mH_rollBack σ (nI j) = some σ' ∧ mM_undo τ (nI j) = some τ' ∧ tI σ' τ' n' c d w' l a ∧ σ' 100 8 = 1 ∧ τ' 100 5 = 0 ∧ τ' 100 0 = τ 100 0 := by
  have hR := h.2.2.2.2.2.1
  have hF := h.2.2.2.2.1
  obtain ⟨σ', τ', w', e1, e2, hU, h0⟩ := t_undo hF.2.2.1 hR.2.2.1 (tI_X h hu) hj hp (tF_shows hF j hj) (tR_cn hR j hj hp)
  exact ⟨σ', τ', _, w', e1, e2, tI_close h hu hv hj hp hU h0 (Nat.le_refl _), by rw [hU.2.2.2.1 8 (by decide) (by decide)]; exact hu, by rw [hU.2.2.2.2.2.1 5 (by decide) (by decide)]; exact hv, hU.2.2.2.2.2.1 0 (by decide) (by decide)⟩
theorem O_end : jo_end JInv := by
  intro σ τ x1 x2 hx h
  have hJ := fun y => J_thr y h
  obtain ⟨n, c, d, w, l, a, hI⟩ := h
  have hI0 := tI_thr 0 hI
  have hR := hI.2.2.2.2.2.1
  have hA := hI.1
  have hn := (tR_n hR).1
  have bad : ∀ (y : Int32) (ko : Nat), ¬ y ≤ 0 → zR ko = y → ko ≠ 0 → ∃ (ko' : Nat) (vo : Int32) (σo : JS) (w : Int32) (τo : JS), some (ko, 0, σ) = some (ko', vo, σo) ∧ mM_end_J34 τ x1 x2 y = some (w, τo) ∧ τo 100 0 = zR ko' ∧ (ko' = 0 → vo = w) ∧ JInv σo τo := by
    intro y ko hy hz hk
    refine ⟨ko, 0, σ, 0, jw2 τ 100 0 y, rfl, ?_, by rw [thr_0, hz], fun h => absurd h hk, hJ y⟩
    unfold mM_end_J34
    rw [jst_n, thr_0, if_neg hy]
  unfold mH_end mM_end
  rcases Q_job σ τ x1 with ⟨j, hj, rfl, e1, e2⟩ | ⟨e1, e2⟩
  · rw [e1, e2, jbn_s, jbn_s, if_neg n10, if_neg n10, H_open σ τ n j hA.2.1 hn (by omega), jbn_s, M_cnt τ (nI j) n hA.1.2.1 hn, jbn_s]
    have hcn := mcn_mcy τ (nI j) n
    have hcl := (mcn_le τ (nI j) n).2
    rcases hI.2.2.2.1 with ⟨u1, u2, u3⟩ | ⟨u1, u2, u3⟩
    · rw [u1, u2, if_neg n10, if_pos (show (0 : Int32) = 0 from rfl)]
      by_cases hp : 0 < mcy τ (nI j) n
      · rw [b2_t hp, if_neg n10, if_neg (nI_ne0 (by omega) (by omega))]
        unfold mM_end_J34
        rw [jst_n, thr_0, if_pos (show (0 : Int32) ≤ 0 by decide)]
        have hp0 : 0 < mcy (jw2 τ 100 0 0) (nI j) n := by
          rw [mcy_same (τ := τ) (nI j) (jsame_rows (fun a h1 h2 => by unfold jw2; rw [if_neg (by omega)]) n)]; exact hp
        rcases hx with rfl | rfl
        · rw [if_pos rfl, if_pos rfl]
          obtain ⟨σ', τ', n', w', k1, k2, k3, k4, k5, k6⟩ := tI_undo hI0 u1 u2 (by omega : j < 4) hp0
          rw [k1, k2, jbn_s, jbn_s, k3.1.1.1, k3.1.1.2.1]
          exact ⟨0, _, σ', _, τ', rfl, rfl, by rw [k6, thr_0]; rfl, fun _ => rfl, n', c, d, w', l, a, k3⟩
        · rw [if_neg n10, if_neg n10]
          have h120 := tR_cn hI0.2.2.2.2.2.1 j (by omega) hp0
          obtain ⟨σ', τ', k1, k2, k3, k4⟩ := t_commit (j := j) (by omega) (tI_X hI0 u1) (by omega)
          rw [k1, k2, jbn_s, jbn_s]
          have k5 := tI_close hI0 u1 u2 (by omega : j < 4) hp0 k3 k4 (by omega)
          rw [k5.1.1.1, k5.1.1.2.1]
          exact ⟨0, _, σ', _, τ', rfl, rfl, by rw [k3.2.2.2.2.2.1 0 (by decide) (by decide), thr_0]; rfl, fun _ => rfl, n + 1, c, d, w, l, a, k5⟩
      · rw [b2_f hp, if_pos rfl, show mcn τ (nI j) n = 0 by omega, if_pos (by decide)]
        exact bad 2 2 (by decide) rfl (by decide)
    · rw [u1, u2, if_pos rfl, if_neg n10]
      exact bad 2 2 (by decide) rfl (by decide)
  · rw [e1, e2, jbn_s, jbn_s, if_pos rfl, if_pos rfl]
    exact bad 1 1 (by decide) rfl (by decide)
theorem O_save : jo_save JInv := by
  intro σ τ x1 x2 h
  have hJ := fun y => J_thr y h
  obtain ⟨n, c, d, w, l, a, hI⟩ := h
  have hI2 := hI
  obtain ⟨hA, hD, hP, hU, hF, hR, hK, hL, h7⟩ := hI2
  have hn := (tR_n hR).1
  have hc := hF.2.2.1
  have bad : ∀ (y : Int32) (ko : Nat), ¬ y ≤ 0 → zR ko = y → ko ≠ 0 → ∃ (ko' : Nat) (vo : Int32) (σo : JS) (w : Int32) (τo : JS), some (ko, 0, σ) = some (ko', vo, σo) ∧ mM_save_J46 τ x1 x2 y = some (w, τo) ∧ τo 100 0 = zR ko' ∧ (ko' = 0 → vo = w) ∧ JInv σo τo := by
    intro y ko hy hz hk
    refine ⟨ko, 0, σ, 0, jw2 τ 100 0 y, rfl, ?_, by rw [thr_0, hz], fun h => absurd h hk, hJ y⟩
    unfold mM_save_J46
    rw [jst_n, thr_0, if_neg hy]
  unfold mH_save mM_save
  rcases Q_file σ τ x1 c hF.1 hF.2.1 hc with ⟨f, hf, rfl, e1, e2⟩ | ⟨e1, e2⟩
  · rw [e1, e2, jbn_s, jbn_s, if_neg n10, if_neg n10]
    rcases Q_slot σ τ x2 with ⟨s, hs4, rfl, g1, g2⟩ | ⟨g1, g2⟩
    · rw [g1, g2, jbn_s, jbn_s, if_neg n10, if_neg n10, H_on σ τ n f hA.2.2.1 hA.1.1 hn (by omega), jbn_s, hA.1.2.1, M_on τ (nI f) n hn, jbn_s]
      rcases hU with ⟨u1, u2, u3⟩ | ⟨u1, u2, u3⟩
      · rw [u1, u2, if_neg n10, if_pos (show (0 : Int32) = 0 from rfl)]
        by_cases hm : mon τ (nI f) n
        · rw [b2_t hm, if_neg n10, if_neg n10]
          exact bad 2 2 (by decide) rfl (by decide)
        · rw [b2_f hm, if_pos rfl, if_pos rfl]
          unfold mC_keep mH_cellOf mM_save_J46
          rw [jst_n, thr_0, if_pos (show (0 : Int32) ≤ 0 by decide), jwr_n _ _ _ _ _ _ hs4 (by decide), jwr_n _ _ _ _ _ _ hs4 (by decide), jwr_n _ _ _ _ _ _ hs4 (by decide), jwr_n _ _ _ _ _ _ hs4 (by decide), show jw2 (jw2 τ 100 0 0) 12 s (nI f) 100 2 = nI n from hA.1.2.1, jwr_n _ _ _ _ _ _ hs4 (by decide), jbn_s, hA.1.1, l8, pk_mul, pk_mul, l0, nI_add, jcp_n _ _ _ _ _ _ _ _ _ (by omega) (by omega) (by decide) (by decide), jbn_s]
          refine ⟨0, nI n, jwA (jw2 (jw2 (jw2 σ 19 s 1) 20 s (nI f)) 21 s (nI n)) 22 (va_cpy (σ 15) (σ 22) (f * 8 + 0) (s * 8) 8), nI n, jw2 (jw2 (jw2 τ 100 0 0) 12 s (nI f)) 13 s (nI n), ?_, ?_, rfl, fun _ => rfl, n, c, d, w, l, a, ?_⟩
          · exact congrArg (fun z => some ((0 : Nat), z, jwA (jw2 (jw2 (jw2 σ 19 s 1) 20 s (nI f)) 21 s (nI n)) 22 (va_cpy (σ 15) (σ 22) (f * 8 + 0) (s * 8) 8))) hA.1.1
          · exact congrArg (fun z => some (z, jw2 (jw2 (jw2 τ 100 0 0) 12 s (nI f)) 13 s (nI n))) hA.1.2.1
          · have hσ : ∀ a, a < 19 ∨ 22 < a → jwA (jw2 (jw2 (jw2 σ 19 s 1) 20 s (nI f)) 21 s (nI n)) 22 (va_cpy (σ 15) (σ 22) (f * 8 + 0) (s * 8) 8) a = σ a := fun a h => by
              unfold jwA jw2
              rw [if_neg (by omega), if_neg (by omega), if_neg (by omega), if_neg (by omega)]
            have hτ : ∀ a, a < 12 ∨ 13 < a → a ≠ 100 → jw2 (jw2 (jw2 τ 100 0 0) 12 s (nI f)) 13 s (nI n) a = τ a := fun a h h2 => by
              unfold jw2
              rw [if_neg (by omega), if_neg (by omega), if_neg (by omega)]
            have hτ1 : ∀ q, q ≠ 0 → jw2 (jw2 (jw2 τ 100 0 0) 12 s (nI f)) 13 s (nI n) 100 q = τ 100 q := fun q h => by
              rw [jw2_at, if_neg (by decide), jw2_at, if_neg (by decide), jw2_at, if_pos rfl, if_neg h]
            have hs : jsame τ (jw2 (jw2 (jw2 τ 100 0 0) 12 s (nI f)) 13 s (nI n)) n := jsame_rows (fun a h1 h2 => hτ a (by omega) (by omega)) n
            refine tI_fr hI (fun a h1 h2 => hσ a (by omega)) (fun q h => by rw [hσ 100 (by decide)]) (fun a h1 h2 => hτ a (by omega) (by omega)) (fun q h => hτ1 q (by omega)) (Nat.le_refl c) (tF_fr hn (fun a g1 g2 => hσ a (by omega)) (by rw [hσ 100 (by decide)]) (fun a g1 g2 => hτ a (by omega) (by omega)) (hτ1 1 (by decide)) hs (Nat.le_refl _) (fun f _ _ hm => ⟨by rw [mob_same _ hs]; exact hm, fun r _ => mvl_same _ _ hs⟩) hF) (fun s' hs' => ?_) (tL_fr (fun a h1 h2 => hσ a (by omega)) (fun q h _ => by rw [hσ 100 (by decide)]) (fun a h1 h2 => hτ a (by omega) (by omega)) (fun q h _ => hτ1 q (by omega)) hs (Nat.le_refl _) hL) ?_
            · have r19 : ∀ x, jwA (jw2 (jw2 (jw2 σ 19 s 1) 20 s (nI f)) 21 s (nI n)) 22 (va_cpy (σ 15) (σ 22) (f * 8 + 0) (s * 8) 8) 19 x = if x = s then 1 else σ 19 x := fun x => by simp only [jwA_at, jw2_at]; simp
              have r20 : ∀ x, jwA (jw2 (jw2 (jw2 σ 19 s 1) 20 s (nI f)) 21 s (nI n)) 22 (va_cpy (σ 15) (σ 22) (f * 8 + 0) (s * 8) 8) 20 x = if x = s then nI f else σ 20 x := fun x => by simp only [jwA_at, jw2_at]; simp
              have r21 : ∀ x, jwA (jw2 (jw2 (jw2 σ 19 s 1) 20 s (nI f)) 21 s (nI n)) 22 (va_cpy (σ 15) (σ 22) (f * 8 + 0) (s * 8) 8) 21 x = if x = s then nI n else σ 21 x := fun x => by simp only [jwA_at, jw2_at]; simp
              have r22 : ∀ x, jwA (jw2 (jw2 (jw2 σ 19 s 1) 20 s (nI f)) 21 s (nI n)) 22 (va_cpy (σ 15) (σ 22) (f * 8 + 0) (s * 8) 8) 22 x = va_cpy (σ 15) (σ 22) (f * 8 + 0) (s * 8) 8 x := fun x => rfl
              have m12 : ∀ x, jw2 (jw2 (jw2 τ 100 0 0) 12 s (nI f)) 13 s (nI n) 12 x = if x = s then nI f else τ 12 x := fun x => by simp only [jw2_at]; simp
              have m13 : ∀ x, jw2 (jw2 (jw2 τ 100 0 0) 12 s (nI f)) 13 s (nI n) 13 x = if x = s then nI n else τ 13 x := fun x => by simp only [jw2_at]; simp
              rw [r19, r20, r21, m12, m13]
              by_cases hss : s' = s
              · subst hss
                rw [if_pos rfl, if_pos rfl, if_pos rfl, if_pos rfl, if_pos rfl]
                refine Or.inr ⟨rfl, f, n, hf, Nat.le_refl _, rfl, rfl, rfl, rfl, fun r hr => ?_⟩
                rw [r22, pk_cpy_in (by omega) (by omega), mvl_same _ _ hs, ← hA.2.2.2 f r (by omega) hr]
                congr 1; omega
              · rw [if_neg hss, if_neg hss, if_neg hss, if_neg hss, if_neg hss]
                rcases hK s' hs' with h | ⟨h, f', m, h1, h2, h3, h4, h5, h6, h7'⟩
                · exact Or.inl h
                · refine Or.inr ⟨h, f', m, h1, h2, h3, h4, h5, h6, fun r hr => ?_⟩
                  rw [r22, pk_cpy_out (by omega), mvl_same _ _ (hs.lt h2)]
                  exact h7' r hr
            · rw [hσ 100 (by decide), hτ1 4 (by decide)]
              exact h7
      · rw [u1, u2, if_pos rfl, if_neg n10]
        exact bad 2 2 (by decide) rfl (by decide)
    · rw [g1, g2, jbn_s, jbn_s, if_pos rfl, if_pos rfl]
      exact bad 1 1 (by decide) rfl (by decide)
  · rw [e1, e2, jbn_s, jbn_s, if_pos rfl, if_pos rfl]
    exact bad 1 1 (by decide) rfl (by decide)
