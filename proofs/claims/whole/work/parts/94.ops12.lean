theorem O_remove : jo_remove JInv := by
  intro σ τ x1 x2 h
  have hJ := fun y => J_thr y h
  obtain ⟨n, c, d, w, l, a, hI⟩ := h
  have hI0 := tI_thr 0 hI
  have hJ0 := hJ 0
  have bad1 : ∃ (ko : Nat) (vo : Int32) (σo : JS) (w : Int32) (τo : JS), some (1, 0, σ) = some (ko, vo, σo) ∧ mM_remove_J17 τ x1 x2 = some (w, τo) ∧ τo 100 0 = zR ko ∧ (ko = 0 → vo = w) ∧ JInv σo τo := by
    refine ⟨1, 0, σ, 0, jw2 τ 100 0 1, rfl, ?_, rfl, fun h => absurd h (by decide), hJ 1⟩
    unfold mM_remove_J17 mM_remove_J18
    rw [jst_n, thr_0, if_neg (by decide)]
  unfold mH_remove mM_remove
  rcases Q_file σ τ x1 c hI.2.2.2.2.1.1 hI.2.2.2.2.1.2.1 hI.2.2.2.2.1.2.2.1 with ⟨f, hf, rfl, e1, e2⟩ | ⟨e1, e2⟩
  · rw [e1, e2, jbn_s, jbn_s, if_neg n10, if_neg n10]
    rcases sx x2 with hx | ⟨k, hk, rfl⟩
    · rw [if_pos hx, if_neg (show ¬ 0 ≤ x2 from neg_nle hx 0 (by omega))]
      exact bad1
    · rw [if_neg (nI_pos hk), if_pos (nI_pos' hk)]
      unfold mM_remove_J18
      rw [jst_n, thr_0, if_pos (show (0 : Int32) ≤ 0 by decide)]
      have t0 : jw2 τ 100 0 0 100 0 = 0 := thr_0 τ 0
      generalize jw2 τ 100 0 0 = τ' at *
      have hR := hI0.2.2.2.2.2.1
      have hn := (tR_n hR).1
      obtain ⟨f1, f2, f3, f4, f5, f6⟩ := hI0.2.2.2.2.1
      have hA := hI0.1
      have hr3 : ∀ {α : Type} (σ : JS) (k : Nat) (K : Int32 → Option α), jrd σ k 3 (nI f) K = K (σ k f) := fun σ k K => jrd_n σ k 3 f K (by omega) (by decide)
      have bad : ∃ (ko : Nat) (vo : Int32) (σo : JS) (w : Int32) (τo : JS), some (2, 0, σ) = some (ko, vo, σo) ∧ some ((0 : Int32), jw2 τ' 100 0 2) = some (w, τo) ∧ τo 100 0 = zR ko ∧ (ko = 0 → vo = w) ∧ JInv σo τo := ⟨2, 0, σ, 0, jw2 τ' 100 0 2, rfl, rfl, rfl, fun h => absurd h (by decide), J_thr 2 hJ0⟩
      -- both ways, live or at a number
      have main : ∀ (own : Nat) (y : Prop), own ≤ n → (∀ σx : JS, (∀ q, q ≠ 29 → σx q = σ q) → mH_numberToRemoveFrom σx (nI f) = some (nI own)) → (∀ r : Nat, r < 8 → nI r < τ' 1 f → mvl τ' (nI f) (nI r) own = mvl τ' (nI f) (nI r) n) → ∃ (ko : Nat) (vo : Int32) (σo : JS) (w : Int32) (τo : JS), (if σ 100 8 = 0 then some (2, 0, σ) else jbn (mH_canRemove σ (nI f) (nI k)) fun q3 => if q3 = 0 then some (2, 0, σ) else mH_remove_J59 σ (nI f) (nI k) (b2 y)) = some (ko, vo, σo) ∧ mM_remove_J62 τ' (nI f) (nI k) (b2 y) (nI own) = some (w, τo) ∧ τo 100 0 = zR ko ∧ (ko = 0 → vo = w) ∧ JInv σo τo := by
        intro own y hown hnum hval
        unfold mM_remove_J62 mM_refuse mH_canRemove
        simp only [hr3]
        rw [hnum σ (fun _ _ => rfl), jbn_s]
        rcases hI0.2.2.2.1 with ⟨u1, u2, u3⟩ | ⟨u1, u2, u3⟩
        · rw [u1, u2, if_neg n10, if_pos (show (0 : Int32) = 0 from rfl)]
          by_cases hok : own ≤ k
          · rw [if_pos (nI_le hok hk), if_pos (nI_le hok hk), jbn_s, if_pos rfl]
            exact bad
          · have hkn : k ≤ n := by omega
            obtain ⟨ql1, ql2⟩ := Q_lacks σ τ' n c d f k own hA hR f3 (by omega) (by omega) hown
            rw [if_neg (nI_ge (by omega) (by omega)), if_neg (nI_ge (by omega) (by omega)), H_on σ τ' n f hA.2.2.1 hA.1.1 hn (by omega), jbn_s, H_bnd σ τ' n f k hA.2.2.1 hA.1.1 hn (by omega) hkn, jbn_s, ql1, jbn_s, hA.1.2.1, M_on τ' (nI f) n hn, jbn_s, M_on τ' (nI f) k (by omega), jbn_s, ql2, jbn_s]
            by_cases hm : mon τ' (nI f) n
            · rw [b2_t hm, if_neg n10, if_neg n10, jbn_s, if_pos rfl]
              exact bad
            · rw [b2_f hm, if_pos rfl, if_pos rfl]
              by_cases hmk : mon τ' (nI f) k
              · rw [b2_t hmk, b2_f (fun z => z hmk), if_pos rfl, if_neg n10, jbn_s, if_pos rfl]
                exact bad
              · rw [b2_f hmk, b2_t hmk, if_neg n10, if_pos rfl]
                by_cases hlc : mlc τ' (nI f) d (k + 1) own
                · rw [b2_t hlc, b2_f (fun z => z hlc), if_pos rfl, if_neg n10, jbn_s, if_pos rfl]
                  exact bad
                · rw [b2_f hlc, b2_t hlc, if_neg n10, if_pos rfl, jbn_s, if_neg n10]
                  unfold mH_remove_J59 mH_wantWhatIs mH_cellOf
                  rw [jbn_s, l8, pk_mul, l0, nI_add, jcp_n _ _ _ _ _ _ _ _ _ (by omega) (by omega) (by decide) (by decide), jbn_s, hnum _ (fun q g => by unfold jwA; rw [if_neg g]), jbn_s, nI_0]
                  have hW : tWn σ τ' f (k + (own - k)) (jwA σ 29 (va_cpy (σ 15) (σ 29) (f * 8 + 0) 0 8)) := by
                    rw [show k + (own - k) = own by omega]
                    refine ⟨fun q g => by unfold jwA; rw [if_neg g], fun r hr hlt => ?_⟩
                    rw [jwA_at, if_pos rfl, pk_cpy_in (by omega) (by omega), hval r hr hlt, ← hA.2.2.2 f r (by omega) hr]
                    congr 1; omega
                  obtain ⟨σ2, z, k1, k2⟩ := H_rm_L (b2 y) (σ 100 0) hA hn f3 (by omega : f < 3) (own - k) 999 _ (by omega) (by omega) hW
                  rw [show k + (own - k) = own by omega] at k1
                  have hI3 := tI_29 hI0 k2.1
                  rw [k1]
                  rcases t_become hI3 (by rw [k2.1 100 (by decide)]; exact u1) u2 hf hkn hm k2.2 with ⟨e1, e2⟩ | ⟨v, σ', τ2, n', w', e1, e2, e3, e4, e5⟩
                  · rw [e1, e2, e2, jbn_s, jbn_s]
                    refine ⟨2, 0, σ2, 0, jw2 τ' 100 0 2, rfl, ?_, rfl, fun h => absurd h (by decide), J_thr 2 ⟨n, c, d, w, l, a, hI3⟩⟩
                    exact ite_self _
                  · rw [e1, e2, e2, jbn_s, jbn_s, jbn_s, if_pos rfl]
                    by_cases hy : y
                    · rw [b2_t hy, if_neg n10, if_neg n10, hA.1.1, nI_1, jwr_n _ _ _ _ _ _ (by omega) (by decide)]
                      exact ⟨0, v, _, v, _, rfl, rfl, e4.trans t0, fun _ => rfl, n', c, d, w', l, a, tI_lim _ e3⟩
                    · rw [b2_f hy, if_pos rfl, if_pos rfl, ← e5, jw2_self]
                      exact ⟨0, v, σ', v, τ2, rfl, rfl, e4.trans t0, fun _ => rfl, n', c, d, w', l, a, e3⟩
        · rw [u1, u2, if_pos rfl, if_neg n10]
          exact bad
      simp only [hr3]
      unfold mM_remove_J44
      simp only [hr3]
      rw [← (f4 f (by omega)).1]
      rcases f6 f hf with hl | ⟨m0, q3, q4, q5, q6⟩
      · have hm := main n True (Nat.le_refl _) (fun σx hx => by
          unfold mH_numberToRemoveFrom
          rw [hr3, hx 27 (by decide), hl, if_pos rfl, hx 100 (by decide), hA.1.1]) (fun _ _ _ => rfl)
        rw [b2_t trivial] at hm
        rw [hl, if_pos rfl, if_neg (show ¬ (0 : Int32) ≤ -1 by decide), if_neg n10, hA.1.2.1]
        exact hm
      · have hne : ¬ nI m0 = -1 := fun z => neg_ne m1_neg m0 (by omega) z.symm
        have hm := main m0 False q3 (fun σx hx => by
          unfold mH_numberToRemoveFrom
          rw [hr3, hr3, hx 27 (by decide), q4, if_neg hne]) q6
        rw [b2_f id] at hm
        rw [q4, if_neg hne, if_pos (nI_pos' (by omega)), if_pos trivial]
        exact hm
  · rw [e1, e2, jbn_s, jbn_s, if_pos rfl, if_pos rfl]
    exact bad1
theorem J_init : JInv xσ0 mσ0 := by
  have z : ∀ q r : Nat, q ≠ 12 → mσ0 q r = 0 := fun q r h => by
    unfold mσ0
    simp only [jw2_at, if_neg h]
  have x : ∀ q r : Nat, q ≠ 100 → xσ0 q r = 0 := fun q r h => by
    unfold xσ0
    simp only [jw2_at, if_neg h]
  have x1 : ∀ r : Nat, r ≠ 8 → xσ0 100 r = 0 := fun r h => by
    unfold xσ0
    simp only [jw2_at, if_neg h, ite_self]
  refine ⟨0, 0, 0, 0, 0, 0, ⟨⟨x1 0 (by decide), z 100 2 (by decide), fun k h1 h2 => by omega⟩, fun j hj => ⟨x 12 j (by decide), x 13 j (by decide), x 14 j (by decide)⟩, fun k hk => ?_, fun f r hf hr => x 15 _ (by decide)⟩, ⟨x1 2 (by decide), z 100 6 (by decide), by omega, fun k hk => by rw [x 16 k (by decide), z 10 k (by decide)], fun i hi => absurd hi (Nat.not_lt_zero _)⟩, fun f r hf hr _ => x 16 _ (by decide), Or.inl ⟨rfl, z 100 5 (by decide), fun f r hf hr => x 16 _ (by decide)⟩, ⟨x1 6 (by decide), z 100 1 (by decide), by omega, fun f hf => ⟨by rw [x 27 f (by decide), z 2 f (by decide)], by rw [x 28 f (by decide), z 3 f (by decide)]⟩, fun f hf => absurd hf (Nat.not_lt_zero _), fun f hf => absurd hf (Nat.not_lt_zero _)⟩, ⟨x1 1 (by decide), z 100 3 (by decide), by omega, by decide, rfl, fun j hj => Or.inl rfl⟩, fun s hs => Or.inl ⟨x 19 s (by decide), ?_⟩, ⟨x1 3 (by decide), z 100 7 (by decide), by omega, fun i hi => absurd hi (Nat.not_lt_zero _), fun k hk => by rw [x 25 k (by decide), z 15 k (by decide)], fun k hk => absurd (z 15 k (by decide)) hk, x1 4 (by decide), z 100 8 (by decide), by omega, by rw [x1 5 (by decide), z 100 9 (by decide)], Or.inl ⟨x1 5 (by decide), fun f r hf hr => x 24 _ (by decide)⟩⟩, by rw [x1 7 (by decide), z 100 4 (by decide)]⟩
  · have e : k = 0 := by omega
    subst e
    exact x 11 0 (by decide)
  · rcases (show s = 0 ∨ s = 1 ∨ s = 2 ∨ s = 3 by omega) with rfl | rfl | rfl | rfl <;> rfl
theorem J_ops : jOps JInv := ⟨O_file, O_change, O_get, O_disk, O_end, O_save, O_restore, O_apply, O_remove, O_number, O_last, O_boundary, O_entry, O_drop, O_cut, O_start, O_link, O_ack, O_takeOver, O_remote⟩
