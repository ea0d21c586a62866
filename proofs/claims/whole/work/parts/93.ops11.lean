theorem m1_neg : (-1 : Int32) < 0 := by decide
theorem O_apply : jo_apply JInv := by
  intro σ τ x1 x2 h
  have hJ := fun y => J_thr y h
  obtain ⟨n, c, d, w, l, a, hI⟩ := h
  have hI0 := tI_thr 0 hI
  have hJ0 := hJ 0
  unfold mH_apply mM_apply
  rcases Q_file σ τ x1 c hI.2.2.2.2.1.1 hI.2.2.2.2.1.2.1 hI.2.2.2.2.1.2.2.1 with ⟨f, hf, rfl, e1, e2⟩ | ⟨e1, e2⟩
  · rw [e1, e2, jbn_s, jbn_s, if_neg n10, if_neg n10]
    unfold mM_apply_J14
    rw [jst_n, thr_0, if_pos (show (0 : Int32) ≤ 0 by decide)]
    have t0 : jw2 τ 100 0 0 100 0 = 0 := thr_0 τ 0
    generalize jw2 τ 100 0 0 = τ' at *
    have hR := hI0.2.2.2.2.2.1
    have hn := (tR_n hR).1
    obtain ⟨f1, f2, f3, f4, f5, f6⟩ := hI0.2.2.2.2.1
    have hA := hI0.1
    have hr3 : ∀ {α : Type} (σ : JS) (k : Nat) (K : Int32 → Option α), jrd σ k 3 (nI f) K = K (σ k f) := fun σ k K => jrd_n σ k 3 f K (by omega) (by decide)
    have bad : ∃ (ko : Nat) (vo : Int32) (σo : JS) (w : Int32) (τo : JS), some (2, 0, σ) = some (ko, vo, σo) ∧ some ((0 : Int32), jw2 τ' 100 0 2) = some (w, τo) ∧ τo 100 0 = zR ko ∧ (ko = 0 → vo = w) ∧ JInv σo τo := ⟨2, 0, σ, 0, jw2 τ' 100 0 2, rfl, rfl, rfl, fun h => absurd h (by decide), J_thr 2 hJ0⟩
    have hJ74 : mM_apply_J74 τ' (nI f) x2 = some ((0 : Int32), jw2 τ' 100 0 2) := by
      unfold mM_apply_J74 mM_apply_J75
      rw [if_pos rfl]
      rfl
    unfold mH_canApply
    simp only [hr3]
    rw [hJ74, ← (f4 f (by omega)).1, ← (f4 f (by omega)).2]
    rcases hI0.2.2.2.1 with ⟨u1, u2, u3⟩ | ⟨u1, u2, u3⟩
    · rw [u1, u2, if_neg n10, if_pos (show (0 : Int32) = 0 from rfl)]
      rcases f6 f hf with hl | ⟨m0, q3, q4, q5, q6⟩
      · rw [hl, if_pos rfl, if_pos m1_neg, jbn_s, if_pos rfl]
        exact bad
      · rw [q4, if_neg (show ¬ nI m0 = -1 from fun z => neg_ne m1_neg m0 (by omega) z.symm), if_neg (nI_pos (by omega))]
        rcases sx x2 with h | ⟨k, hk, rfl⟩
        · rw [if_pos (neg_le h m0 (by omega)), if_pos (neg_le h m0 (by omega)), jbn_s, if_pos rfl]
          exact bad
        · by_cases hkm : k ≤ m0
          · rw [if_pos (nI_le hkm (by omega)), if_pos (nI_le hkm (by omega)), jbn_s, if_pos rfl]
            exact bad
          · rw [if_neg (nI_ge (by omega) hk), if_neg (nI_ge (by omega) hk)]
            by_cases hlim : σ 28 f ≤ nI k
            · rw [if_pos hlim, if_pos hlim, jbn_s, if_pos rfl]
              exact bad
            · rw [if_neg hlim, if_neg hlim, H_on σ τ' n f hA.2.2.1 hA.1.1 hn (by omega), jbn_s, hA.1.2.1]
              by_cases hkn : k ≤ n
              · rw [if_neg (nI_nlt hkn (by omega)), H_bnd σ τ' n f k hA.2.2.1 hA.1.1 hn (by omega) hkn, jbn_s]
                obtain ⟨ql1, ql2⟩ := Q_lacks σ τ' n c d f m0 k hA hR f3 (by omega) (by omega) hkn
                unfold mM_apply_J75 mM_refuse
                simp only [hr3]
                rw [if_neg n10, hA.1.2.1, M_on τ' (nI f) n hn, jbn_s, M_on τ' (nI f) k (by omega), jbn_s, ql1, jbn_s, ← (f4 f (by omega)).1, q4, ql2, jbn_s, ← (f4 f (by omega)).2]
                by_cases hm : mon τ' (nI f) n
                · rw [b2_t hm, if_neg n10, if_neg n10, jbn_s, if_pos rfl]
                  exact bad
                · rw [b2_f hm, if_pos rfl, if_pos rfl]
                  by_cases hmk : mon τ' (nI f) k
                  · rw [b2_t hmk, b2_f (fun z => z hmk), if_pos rfl, if_neg n10, jbn_s, if_pos rfl]
                    exact bad
                  · rw [b2_f hmk, b2_t hmk, if_neg n10, if_pos rfl]
                    by_cases hlc : mlc τ' (nI f) d (m0 + 1) k
                    · rw [b2_t hlc, b2_f (fun z => z hlc), if_pos rfl, if_neg n10, jbn_s, if_pos rfl]
                      exact bad
                    · rw [b2_f hlc, b2_t hlc, if_neg n10, if_pos rfl, jbn_s, if_neg n10]
                      unfold mH_wantWhatIs mH_cellOf
                      rw [jbn_s, l8, pk_mul, l0, nI_add, jcp_n _ _ _ _ _ _ _ _ _ (by omega) (by omega) (by decide) (by decide), jbn_s, show jwA σ 29 (va_cpy (σ 15) (σ 29) (f * 8 + 0) 0 8) 27 f = nI m0 from q4, nI_1]
                      have hW : tWn σ τ' f m0 (jwA σ 29 (va_cpy (σ 15) (σ 29) (f * 8 + 0) 0 8)) := by
                        refine ⟨fun q g => by unfold jwA; rw [if_neg g], fun r hr hlt => ?_⟩
                        rw [jwA_at, if_pos rfl, pk_cpy_in (by omega) (by omega), q6 r hr hlt, ← hA.2.2.2 f r (by omega) hr]
                        congr 1; omega
                      obtain ⟨σ2, z, k1, k2⟩ := H_ap_L hA hn f3 (by omega : f < 3) hkn (k - m0) m0 999 _ (by omega) (by omega) hW
                      have hI3 := tI_29 hI0 k2.1
                      rw [k1]
                      rcases t_become hI3 (by rw [k2.1 100 (by decide)]; exact u1) u2 hf hkn hm k2.2 with ⟨e1, e2⟩ | ⟨v, σ', τ2, n', w', e1, e2, e3, e4, e5⟩
                      · rw [e1, e2, jbn_s, jbn_s]
                        exact ⟨2, 0, σ2, 0, jw2 τ' 100 0 2, rfl, rfl, rfl, fun h => absurd h (by decide), J_thr 2 ⟨n, c, d, w, l, a, hI3⟩⟩
                      · rw [e1, e2, jbn_s, jbn_s, if_pos rfl, (f4 f (by omega)).2, ← e5, jw2_self]
                        exact ⟨0, v, σ', v, τ2, rfl, rfl, e4.trans t0, fun _ => rfl, n', c, d, w', l, a, e3⟩
              · rw [if_pos (nI_lt (by omega) hk)]
                unfold mJ_isBoundary
                rw [if_neg (nI_pos hk), hA.1.1, if_pos (nI_lt (by omega) hk), jbn_s, if_pos rfl, ite_self, jbn_s, if_pos rfl]
                exact bad
    · rw [u1, u2, if_pos rfl, if_neg n10]
      exact bad
  · rw [e1, e2, jbn_s, jbn_s, if_pos rfl, if_pos rfl]
    refine ⟨1, 0, σ, 0, jw2 τ 100 0 1, rfl, ?_, rfl, fun h => absurd h (by decide), hJ 1⟩
    unfold mM_apply_J14
    rw [jst_n, thr_0, if_neg (by decide)]
