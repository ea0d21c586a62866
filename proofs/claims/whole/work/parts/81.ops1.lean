/-! the operations, one by one -/
theorem b2_p1 (p : Prop) : ¬ b2 p = 0 ↔ p := by
  rw [b2_0]
  exact Classical.not_not
theorem O_last : jo_last JInv := by
  intro σ τ h
  refine ⟨σ 100 0, jw2 τ 100 0 0, rfl, ?_, J_thr 0 h⟩
  obtain ⟨n, c, d, w, l, a, hA, h⟩ := h
  unfold mM_last
  rw [jst_n, show jw2 τ 100 0 0 100 2 = τ 100 2 from rfl, hA.1.1, hA.1.2.1]
theorem O_ack : jo_ack JInv := by
  intro σ τ h
  obtain ⟨n, c, d, w, l, a, hA, hD, hP, hU, hF, hR, hK, hL, h7⟩ := h
  unfold mH_ack mM_ack
  have h8 := hL.2.2.2.2.2.2.2.1
  have h4 := hL.2.2.2.2.2.2.1
  rcases hU with ⟨u1, u2, u3⟩ | ⟨u1, u2, u3⟩
  · rw [u1, u2, if_neg (by decide), if_pos rfl, jst_n, jst_n, thr_0, if_pos (by decide), jst_n]
    refine ⟨0, nI a, jw2 σ 100 7 (σ 100 4), nI a, jw2 (jw2 τ 100 0 0) 100 4 (jw2 τ 100 0 0 100 8), ?_, ?_, rfl, fun _ => rfl, by decide, n, c, d, w, l, a, ?_⟩
    · rw [h4]; simp [jw2_at]
    · rw [show jw2 τ 100 0 0 100 8 = τ 100 8 from rfl, h8]; simp [jw2_at]
    · have hτ : ∀ a, a < 100 → jw2 (jw2 τ 100 0 0) 100 4 (jw2 τ 100 0 0 100 8) a = τ a := fun a h => by unfold jw2; rw [if_neg (by omega), if_neg (by omega)]
      have hσ : ∀ a, a < 100 → jw2 σ 100 7 (σ 100 4) a = σ a := fun a h => by unfold jw2; rw [if_neg (by omega)]
      have hs : jsame τ (jw2 (jw2 τ 100 0 0) 100 4 (jw2 τ 100 0 0 100 8)) n := jsame_rows (fun a _ h => hτ a (by omega)) n
      refine ⟨tA_fr (σ := σ) (τ := τ) (fun a _ h => hσ a (by omega)) rfl (fun a _ h => hτ a (by omega)) rfl hA, tD_fr (σ := σ) (τ := τ) (fun a _ h => hσ a (by omega)) rfl (fun a _ h => hτ a (by omega)) rfl hD, tP_fr (σ := σ) (τ := τ) rfl (fun a _ h => hτ a (by omega)) hP, tUp_fr (σ := σ) (τ := τ) (fun a _ h => hσ a (by omega)) rfl (fun a _ h => hτ a (by omega)) rfl (Or.inl ⟨u1, u2, u3⟩), tF_fr (σ := σ) (τ := τ) (tR_n hR).1 (fun a _ h => hσ a (by omega)) rfl (fun a _ h => hτ a (by omega)) rfl hs (Nat.le_refl _) (fun f _ _ hm => ⟨by rw [mob_same _ hs]; exact hm, fun r _ => mvl_same _ _ hs⟩) hF, tR_fr (σ := σ) (τ := τ) rfl rfl hs hR, tK_fr (σ := σ) (τ := τ) (fun a _ h => hσ a (by omega)) (fun a _ h => hτ a (by omega)) hs (Nat.le_refl _) (Nat.le_refl _) hK, tL_fr (σ := σ) (τ := τ) (fun a _ h => hσ a (by omega)) (fun q h _ => by rw [jw2_at, if_pos rfl, if_neg (by omega)]) (fun a _ h => hτ a (by omega)) (fun q h _ => by rw [jw2_at, if_pos rfl, if_neg (by omega), jw2_at, if_pos rfl, if_neg (by omega)]) hs (Nat.le_refl _) hL, ?_⟩
      rw [jw2_at, if_pos rfl, if_pos rfl, jw2_at, if_pos rfl, if_pos rfl, h4]
      exact h8.symm
  · rw [u1, u2, if_pos rfl, if_neg (by decide), jst_n, thr_0, if_neg (by decide)]
    exact ⟨2, 0, σ, 0, jw2 τ 100 0 1, rfl, rfl, rfl, fun h => absurd h (by decide), by decide, J_thr 1 ⟨n, c, d, w, l, a, hA, hD, hP, Or.inr ⟨u1, u2, u3⟩, hF, hR, hK, hL, h7⟩⟩
theorem O_number : jo_number JInv := by
  intro σ τ x1 h
  have hJ := J_thr 0 h
  obtain ⟨n, c, d, w, l, a, hA, hD, hP, hU, hF, hR, hK, hL, h7⟩ := h
  obtain ⟨f1, f2, f3, f4, f5, f6⟩ := hF
  unfold mH_number mM_number
  rw [jst_n]
  rcases Q_file σ (jw2 τ 100 0 0) x1 c f1 f2 f3 with ⟨f, hf, rfl, e1, e2⟩ | ⟨e1, e2⟩
  · refine ⟨σ 27 f, jw2 τ 100 0 0, ?_, ?_, hJ⟩
    · rw [e1, jbn_s, if_neg (by decide), jrd_n _ _ _ _ _ (by omega) (by decide)]
    · rw [e2, jbn_s, if_neg (by decide), jrd_n _ _ _ _ _ (by omega) (by decide), show jw2 τ 100 0 0 2 f = τ 2 f from rfl, (f4 f (by omega)).1]
  · refine ⟨-1, jw2 τ 100 0 0, ?_, ?_, hJ⟩
    · rw [e1, jbn_s, if_pos rfl]
    · rw [e2, jbn_s, if_pos rfl]
theorem M_rec0 (σ τ : JS) (n c d w l a : Nat) (h : tI σ τ n c d w l a) (x y : Int32) : (∃ f r : Nat, f < c ∧ r < 8 ∧ c ≤ 3 ∧ x = nI f ∧ y = nI r ∧ mH_isRecord σ x y = some 1 ∧ mM_isRecord τ x y = some 1) ∨ (mH_isRecord σ x y = some 0 ∧ mM_isRecord τ x y = some 0) := by
  obtain ⟨hA, hD, hP, hU, hF, hR, hK, hL, h7⟩ := h
  rcases Q_record σ τ x y c hF.1 hF.2.1 hF.2.2.1 hF.2.2.2.2.1 with ⟨f, r, hf, hr, h⟩ | h
  · exact Or.inl ⟨f, r, hf, hr, hF.2.2.1, h⟩
  · exact Or.inr h
theorem O_get : jo_get JInv := by
  intro σ τ x1 x2 h
  have hJ := J_thr 0 h
  have hJ2 := hJ
  obtain ⟨n, c, d, w, l, a, hI⟩ := hJ2
  have hn := (tR_n hI.2.2.2.2.2.1).1
  unfold mH_get mM_get
  rw [jst_n]
  rcases hI.2.2.2.1 with ⟨u1, u2, u3⟩ | ⟨u1, u2, u3⟩
  · rw [u1, u2, if_neg (by decide), if_pos rfl]
    rcases M_rec0 σ _ n c d w l a hI x1 x2 with ⟨f, r, hf, hr, hc, rfl, rfl, e1, e2⟩ | ⟨e1, e2⟩
    · refine ⟨(σ 15 (8 * f + r)).toInt64, jw2 τ 100 0 0, ?_, ?_, hJ⟩
      · unfold mH_cellOf
        rw [e1, jbn_s, if_neg (by decide), jbn_s, l8, pk_mul, nI_add, Nat.mul_comm f 8, jrd_n _ _ _ _ _ (by omega) (by decide)]
      · rw [e2, jbn_s, if_neg (by decide), hI.1.1.2.1, M_val _ _ _ n hn, jbn_s, hI.1.2.2.2 f r (by omega) hr]
    · refine ⟨1099511627776, jw2 τ 100 0 0, ?_, ?_, hJ⟩
      · rw [e1, jbn_s, if_pos rfl]
      · rw [e2, jbn_s, if_pos rfl]
  · rw [u1, u2, if_pos rfl, if_neg (by decide)]
    exact ⟨_, _, rfl, rfl, hJ⟩
theorem O_disk : jo_disk JInv := by
  intro σ τ x1 x2 h
  have hJ := J_thr 0 h
  have hJ2 := hJ
  obtain ⟨n, c, d, w, l, a, hI⟩ := hJ2
  unfold mH_disk mM_disk
  rw [jst_n]
  rcases M_rec0 σ _ n c d w l a hI x1 x2 with ⟨f, r, hf, hr, hc, rfl, rfl, e1, e2⟩ | ⟨e1, e2⟩
  · refine ⟨(σ 16 (8 * f + r)).toInt64, jw2 τ 100 0 0, ?_, ?_, hJ⟩
    · unfold mH_cellOf
      rw [e1, jbn_s, if_neg (by decide), jbn_s, l8, pk_mul, nI_add, Nat.mul_comm f 8, jrd_n _ _ _ _ _ (by omega) (by decide)]
    · rw [e2, jbn_s, if_neg (by decide), l8, pk_mul, nI_add, jrd_n _ _ _ _ _ (by omega) (by decide), hI.2.1.2.2.2.1 _ (by omega)]
  · refine ⟨1099511627776, jw2 τ 100 0 0, ?_, ?_, hJ⟩
    · rw [e1, jbn_s, if_pos rfl]
    · rw [e2, jbn_s, if_pos rfl]
theorem O_boundary : jo_boundary JInv := by
  intro σ τ x1 x2 h
  have hJ := J_thr 0 h
  have hJ2 := hJ
  obtain ⟨n, c, d, w, l, a, hI⟩ := hJ2
  have hn := (tR_n hI.2.2.2.2.2.1).1
  have hF := hI.2.2.2.2.1
  have hc := hF.2.2.1
  unfold mH_boundary mM_boundary
  rw [jst_n]
  rcases Q_file σ _ x1 c hF.1 hF.2.1 hc with ⟨f, hf, rfl, e1, e2⟩ | ⟨e1, e2⟩
  · rw [e1, e2, jbn_s, jbn_s, if_neg (show ¬ (1 : Int32) = 0 by decide), if_neg (show ¬ (1 : Int32) = 0 by decide), hI.1.1.2.1]
    rcases sx x2 with h | ⟨k, hk, rfl⟩
    · refine ⟨0, jw2 τ 100 0 0, ?_, ?_, hJ⟩
      · unfold mJ_isBoundary
        rw [if_pos h, jbn_s, if_pos rfl]
      · rw [W_neg _ h, jbn_s, if_pos rfl]
    · by_cases hkn : k ≤ n
      · refine ⟨b2 (¬ mon (jw2 τ 100 0 0) (nI f) k), jw2 τ 100 0 0, ?_, ?_, hJ⟩
        · rw [H_bnd σ _ n f k hI.1.2.2.1 hI.1.1.1 hn (by omega) hkn, jbn_s]
          rcases b2_01 (¬ mon (jw2 τ 100 0 0) (nI f) k) with z | z
          · rw [z, if_pos rfl]
          · rw [z, if_neg (by decide)]
        · rw [W_in _ k n hkn (by omega), jbn_s, if_neg (by decide), M_on _ _ k (by omega), jbn_s]
          by_cases hm : mon (jw2 τ 100 0 0) (nI f) k
          · rw [if_neg (by rw [b2_t hm]; decide), b2_f (fun z => z hm)]
          · rw [if_pos (b2_f hm), b2_t hm]
      · refine ⟨0, jw2 τ 100 0 0, ?_, ?_, hJ⟩
        · unfold mJ_isBoundary
          rw [if_neg (nI_pos hk), hI.1.1.1, if_pos (nI_lt (by omega) hk), jbn_s, if_pos rfl]
        · rw [W_out _ k n (by omega) hk, jbn_s, if_pos rfl]
  · rw [e1, e2, jbn_s, jbn_s, if_pos rfl, if_pos rfl]
    exact ⟨_, _, rfl, rfl, hJ⟩
