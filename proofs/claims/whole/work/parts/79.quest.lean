/-! what both sides ask -/
theorem sx (x : Int32) : x < 0 ∨ ∃ j : Nat, j < 2 ^ 31 ∧ x = nI j := by
  by_cases h : x < 0
  · exact Or.inl h
  · exact Or.inr (nI_of h)
theorem neg_nle {x : Int32} (h : x < 0) (n : Nat) (hn : n < 2 ^ 31) : ¬ nI n ≤ x := by
  intro z
  rw [Int32.lt_iff_toInt_lt] at h
  rw [Int32.le_iff_toInt_le, nI_toInt hn] at z
  have : (0 : Int32).toInt = 0 := rfl
  omega
theorem neg_le {x : Int32} (h : x < 0) (n : Nat) (hn : n < 2 ^ 31) : x ≤ nI n := by
  rw [Int32.lt_iff_toInt_lt] at h
  rw [Int32.le_iff_toInt_le, nI_toInt hn]
  have : (0 : Int32).toInt = 0 := rfl
  omega
theorem neg_lt {x : Int32} (h : x < 0) (n : Nat) (hn : n < 2 ^ 31) : x < nI n := by
  rw [Int32.lt_iff_toInt_lt] at h
  rw [Int32.lt_iff_toInt_lt, nI_toInt hn]
  have : (0 : Int32).toInt = 0 := rfl
  omega
theorem neg_nlt {x : Int32} (h : x < 0) (n : Nat) (hn : n < 2 ^ 31) : ¬ nI n < x := by
  rw [Int32.lt_iff_toInt_lt] at h
  rw [Int32.lt_iff_toInt_lt, nI_toInt hn]
  have : (0 : Int32).toInt = 0 := rfl
  omega
theorem neg_ne {x : Int32} (h : x < 0) (n : Nat) (hn : n < 2 ^ 31) : ¬ x = nI n := by
  intro z
  rw [z] at h
  exact nI_pos hn h
/-- within 0 and c - 1 -/
theorem W_neg (τ : JS) {x : Int32} (h : x < 0) (y : Int32) : mM_within τ x 0 y = some 0 := by
  unfold mM_within
  rw [if_pos h]
theorem W_in (τ : JS) (j c : Nat) (h : j ≤ c) (hc : c < 2 ^ 31) : mM_within τ (nI j) 0 (nI c) = some 1 := by
  unfold mM_within
  rw [if_neg (nI_pos (by omega)), if_neg (nI_nlt h hc)]
theorem W_out (τ : JS) (j c : Nat) (h : c < j) (hj : j < 2 ^ 31) : mM_within τ (nI j) 0 (nI c) = some 0 := by
  unfold mM_within
  rw [if_neg (nI_pos hj), if_pos (nI_lt h hj)]
theorem W_pred (τ : JS) (x : Int32) (c : Nat) (hc : c < 2 ^ 31) : (∃ j : Nat, j < c ∧ x = nI j ∧ mM_within τ x 0 (nI c - 1) = some 1) ∨ ((∀ j : Nat, j < c → x ≠ nI j) ∧ mM_within τ x 0 (nI c - 1) = some 0) := by
  rcases sx x with h | ⟨j, hj, rfl⟩
  · exact Or.inr ⟨fun j hj => neg_ne h j (by omega), W_neg τ h _⟩
  · cases c with
    | zero =>
      refine Or.inr ⟨fun _ h => absurd h (Nat.not_lt_zero _), ?_⟩
      unfold mM_within
      rw [if_neg (nI_pos hj), if_pos]
      rw [Int32.lt_iff_toInt_lt, nI_toInt hj]
      have : (nI 0 - 1).toInt = -1 := by decide
      omega
    | succ c =>
      rw [nI_pred]
      by_cases h : j ≤ c
      · exact Or.inl ⟨j, by omega, rfl, W_in τ j c h (by omega)⟩
      · exact Or.inr ⟨fun i hi z => by have := nI_inj hj (by omega) z; omega, W_out τ j c (by omega) hj⟩
theorem H_isFile1 (σ : JS) (f c : Nat) (h : σ 100 6 = nI c) (hf : f < c) (hc : c ≤ 3) : mH_isFile σ (nI f) = some 1 := by
  unfold mH_isFile
  rw [if_neg (nI_pos (by omega)), h, if_neg (nI_ge hf (by omega))]
theorem H_isFile0 (σ : JS) (x : Int32) (c : Nat) (h : σ 100 6 = nI c) (hc : c ≤ 3) (hx : ∀ j : Nat, j < c → x ≠ nI j) : mH_isFile σ x = some 0 := by
  unfold mH_isFile
  rcases sx x with h0 | ⟨j, hj, rfl⟩
  · rw [if_pos h0]
  · rw [if_neg (nI_pos hj), h, if_pos (nI_le _ hj)]
    by_cases hjc : j < c
    · exact absurd rfl (hx j hjc)
    · omega
theorem Q_file (σ τ : JS) (x : Int32) (c : Nat) (h : σ 100 6 = nI c) (h' : τ 100 1 = nI c) (hc : c ≤ 3) : (∃ f : Nat, f < c ∧ x = nI f ∧ mH_isFile σ x = some 1 ∧ mM_isFile τ x = some 1) ∨ (mH_isFile σ x = some 0 ∧ mM_isFile τ x = some 0) := by
  rcases W_pred τ x c (by omega) with ⟨f, hf, rfl, hw⟩ | ⟨hx, hw⟩
  · refine Or.inl ⟨f, hf, rfl, H_isFile1 σ f c h hf hc, ?_⟩
    unfold mM_isFile
    rw [h', hw]
    rfl
  · refine Or.inr ⟨H_isFile0 σ x c h hc hx, ?_⟩
    unfold mM_isFile
    rw [h', hw]
    rfl
theorem Q_job (σ τ : JS) (x : Int32) : (∃ j : Nat, j < 3 ∧ x = nI j ∧ mH_isJob σ x = some 1 ∧ mM_within τ x 0 2 = some 1) ∨ (mH_isJob σ x = some 0 ∧ mM_within τ x 0 2 = some 0) := by
  unfold mH_isJob
  rcases sx x with h | ⟨j, hj, rfl⟩
  · exact Or.inr ⟨if_pos h, W_neg τ h _⟩
  · rw [if_neg (nI_pos hj), l3, l2]
    by_cases h : j < 3
    · exact Or.inl ⟨j, h, rfl, if_neg (nI_ge h (by omega)), W_in τ j 2 (by omega) (by omega)⟩
    · exact Or.inr ⟨if_pos (nI_le (by omega) hj), W_out τ j 2 (by omega) hj⟩
theorem Q_slot (σ τ : JS) (x : Int32) : (∃ j : Nat, j < 4 ∧ x = nI j ∧ mH_isSlot σ x = some 1 ∧ mM_within τ x 0 3 = some 1) ∨ (mH_isSlot σ x = some 0 ∧ mM_within τ x 0 3 = some 0) := by
  unfold mH_isSlot
  rcases sx x with h | ⟨j, hj, rfl⟩
  · exact Or.inr ⟨if_pos h, W_neg τ h _⟩
  · rw [if_neg (nI_pos hj), l4, l3]
    by_cases h : j < 4
    · exact Or.inl ⟨j, h, rfl, if_neg (nI_ge h (by omega)), W_in τ j 3 (by omega) (by omega)⟩
    · exact Or.inr ⟨if_pos (nI_le (by omega) hj), W_out τ j 3 (by omega) hj⟩
theorem Q_record (σ τ : JS) (x y : Int32) (c : Nat) (h : σ 100 6 = nI c) (h' : τ 100 1 = nI c) (hc : c ≤ 3) (hz : ∀ f : Nat, f < c → ∃ z : Nat, 1 ≤ z ∧ z ≤ 8 ∧ σ 26 f = nI z ∧ τ 1 f = nI z) : (∃ f r : Nat, f < c ∧ r < 8 ∧ x = nI f ∧ y = nI r ∧ mH_isRecord σ x y = some 1 ∧ mM_isRecord τ x y = some 1) ∨ (mH_isRecord σ x y = some 0 ∧ mM_isRecord τ x y = some 0) := by
  unfold mH_isRecord mM_isRecord
  rcases Q_file σ τ x c h h' hc with ⟨f, hf, rfl, e1, e2⟩ | ⟨e1, e2⟩
  · obtain ⟨z, z1, z2, z3, z4⟩ := hz f hf
    rw [e1, e2, jbn_s, jbn_s, if_neg (show ¬ (1 : Int32) = 0 by decide), if_neg (show ¬ (1 : Int32) = 0 by decide), jrd_n _ _ _ _ _ (by omega) (by decide), jrd_n _ _ _ _ _ (by omega) (by decide), z3, z4]
    rcases W_pred τ y z (by omega) with ⟨r, hr, rfl, hw⟩ | ⟨hx, hw⟩
    · refine Or.inl ⟨f, r, hf, by omega, rfl, rfl, ?_, ?_⟩
      · rw [if_neg (nI_pos (by omega)), if_neg (nI_ge hr (by omega))]
      · rw [hw, jbn_s, if_neg (by decide)]
    · refine Or.inr ⟨?_, ?_⟩
      · rcases sx y with h0 | ⟨j, hj, rfl⟩
        · rw [if_pos h0]
        · rw [if_neg (nI_pos hj), if_pos]
          by_cases hjz : j < z
          · exact absurd rfl (hx j hjz)
          · exact nI_le (by omega) hj
      · rw [hw, jbn_s, if_pos rfl]
  · rw [e1, e2, jbn_s, jbn_s, if_pos rfl, if_pos rfl]
    exact Or.inr ⟨rfl, rfl⟩
theorem H_start0 (σ : JS) (d : Nat) (h : σ 100 1 = nI d) : mJ_startOfOldest σ = some (nI (8 * d + 1)) := by
  unfold mJ_startOfOldest
  rw [h, l8, pk_mul, nI_1, Nat.mul_comm]
theorem Q_kept (σ τ : JS) (x : Int32) (n d : Nat) (h0 : σ 100 0 = nI n) (h1 : σ 100 1 = nI d) (g2 : τ 100 2 = nI n) (g3 : τ 100 3 = nI d) (hn : n ≤ 120) (hd : 8 * d ≤ n) : (∃ k : Nat, 8 * d < k ∧ k ≤ n ∧ x = nI k ∧ mJ_isKept σ x = some 1 ∧ mM_isKept τ x = some 1) ∨ (mJ_isKept σ x = some 0 ∧ mM_isKept τ x = some 0) := by
  unfold mJ_isKept mM_isKept
  rw [H_start0 σ d h1, jbn_s, h0, g2, g3, l8, pk_mul]
  rcases sx x with h | ⟨k, hk, rfl⟩
  · exact Or.inr ⟨if_pos (neg_lt h _ (by omega)), if_pos (neg_le h _ (by omega))⟩
  · by_cases hk1 : 8 * d < k
    · rw [if_neg (nI_nlt (by omega) hk), if_neg (nI_ge hk1 hk)]
      by_cases hk2 : k ≤ n
      · exact Or.inl ⟨k, hk1, hk2, rfl, if_neg (nI_nlt hk2 (by omega)), if_neg (nI_nlt hk2 (by omega))⟩
      · exact Or.inr ⟨if_pos (nI_lt (by omega) hk), if_pos (nI_lt (by omega) hk)⟩
    · exact Or.inr ⟨if_pos (nI_lt (by omega) (by omega)), if_pos (nI_le (by omega) (by omega))⟩
theorem Q_kept1 (σ τ : JS) (k n d : Nat) (h0 : σ 100 0 = nI n) (h1 : σ 100 1 = nI d) (hn : n ≤ 120) (hd : 8 * d ≤ n) (hk : k ≤ n) : mJ_isKept σ (nI k) = some (b2 (8 * d < k)) := by
  unfold mJ_isKept
  rw [H_start0 σ d h1, jbn_s, h0]
  by_cases hk1 : 8 * d < k
  · rw [if_neg (nI_nlt (by omega) (by omega)), if_neg (nI_nlt hk (by omega)), b2_t hk1]
  · rw [if_pos (nI_lt (by omega) (by omega)), b2_f hk1]
theorem H_open (σ τ : JS) (n j : Nat) (hC : tC σ τ n) (hn : n ≤ 120) (hj : j < 4) : mJ_isCycleOpen σ (nI j) = some (b2 (0 < mcy τ (nI j) n)) := by
  have hle := mcy_le τ (nI j) n
  unfold mJ_isCycleOpen
  rw [jrd_n _ _ _ _ _ (by omega) (by decide), (hC j hj).1]
  by_cases h : 0 < mcy τ (nI j) n
  · rw [if_neg (nI_nle h (by omega)), b2_t h]
  · rw [show mcy τ (nI j) n = 0 by omega, if_pos (by decide), b2_f (by omega)]
theorem H_inOpen (σ τ : JS) (n c k : Nat) (hA : tA σ τ n c) (hn : n ≤ 120) (h1 : 1 ≤ k) (h2 : k ≤ n) : mJ_isInOpenCycle σ (nI k) = some (b2 (0 < mcy τ (τ 5 k) n ∧ mcy τ (τ 5 k) n ≤ k)) := by
  obtain ⟨t1, t2, ⟨j, hj, t3⟩, t4⟩ := hA.1.2.2 k h1 h2
  have hle := mcy_le τ (nI j) n
  unfold mJ_isInOpenCycle
  rw [jrd_n _ _ _ _ _ (by omega) (by decide), t2, t3, H_open σ τ n j hA.2.1 hn hj, jbn_s]
  by_cases h : 0 < mcy τ (nI j) n
  · rw [if_neg (by rw [b2_t h]; decide), jrd_n _ _ _ _ _ (by omega) (by decide), (hA.2.1 j hj).1]
    by_cases h3 : mcy τ (nI j) n ≤ k
    · rw [if_neg (nI_nlt h3 (by omega)), b2_t ⟨h, h3⟩]
    · rw [if_pos (nI_lt (by omega) (by omega)), b2_f (fun z => h3 z.2)]
  · rw [if_pos (b2_f h), b2_f (fun z => h z.1)]
theorem H_lk_L (σ τ : JS) (n c : Nat) (hA : tA σ τ n c) (hn : n ≤ 120) (j f r : Nat) (hf : f < 3) (hr : r < 8) (hc : c ≤ 3) : ∀ (e i fuel : Nat), i + e = n + 1 → 0 < i → e < fuel → mJ_isLockedByAnother_L5 σ (nI j) (nI (8 * f + r)) fuel (nI i) = some (b2 (∃ k, i ≤ k ∧ k ≤ n ∧ τ 4 k = 1 ∧ τ 6 k = nI f ∧ τ 7 k = nI r ∧ ¬ τ 5 k = nI j ∧ 0 < mcy τ (τ 5 k) n ∧ mcy τ (τ 5 k) n ≤ k))
  | e, i, 0, _, _, h => absurd h (Nat.not_lt_zero _)
  | 0, i, fuel + 1, hi, _, _ => by
    rw [mJ_isLockedByAnother_L5, hA.1.1, if_pos (nI_lt (by omega) (by omega)), b2_f]
    rintro ⟨k, h1, h2, -⟩
    omega
  | e + 1, i, fuel + 1, hi, h0, h => by
    obtain ⟨t1, t2, t3, t4⟩ := hA.1.2.2 i (by omega) (by omega)
    have ih := H_lk_L σ τ n c hA hn j f r hf hr hc e (i + 1) fuel (by omega) (by omega) (by omega)
    have skip : ¬ (τ 4 i = 1 ∧ τ 6 i = nI f ∧ τ 7 i = nI r ∧ ¬ τ 5 i = nI j ∧ 0 < mcy τ (τ 5 i) n ∧ mcy τ (τ 5 i) n ≤ i) → mJ_isLockedByAnother_L5 σ (nI j) (nI (8 * f + r)) fuel (nI i + 1) = some (b2 (∃ k, i ≤ k ∧ k ≤ n ∧ τ 4 k = 1 ∧ τ 6 k = nI f ∧ τ 7 k = nI r ∧ ¬ τ 5 k = nI j ∧ 0 < mcy τ (τ 5 k) n ∧ mcy τ (τ 5 k) n ≤ k)) := by
      intro hno
      rw [nI_1, ih]
      congr 1
      refine b2_c ⟨?_, ?_⟩
      · rintro ⟨k, h1, h2, h3⟩
        exact ⟨k, by omega, h2, h3⟩
      · rintro ⟨k, h1, h2, h3⟩
        by_cases hk : k = i
        · subst hk; exact absurd h3 hno
        · exact ⟨k, by omega, h2, h3⟩
    rw [mJ_isLockedByAnother_L5, hA.1.1, if_neg (nI_nlt (by omega) (by omega)), jrd_n _ _ _ _ _ (by omega) (by decide), t1]
    by_cases h4 : τ 4 i = 1
    · obtain ⟨b1, b2', b3, f', r', hf', hr', g6, g7, g8⟩ := t4 h4
      rw [if_pos h4, jrd_n _ _ _ _ _ (by omega) (by decide), g8]
      by_cases hx : 8 * f' + r' = 8 * f + r
      · have e1 : f' = f := by omega
        have e2 : r' = r := by omega
        subst e1; subst e2
        rw [if_pos rfl, jrd_n _ _ _ _ _ (by omega) (by decide), t2]
        by_cases h5 : τ 5 i = nI j
        · rw [if_pos h5]
          exact skip (fun z => z.2.2.2.1 h5)
        · rw [if_neg h5, H_inOpen σ τ n c i hA hn (by omega) (by omega), jbn_s]
          by_cases ho : 0 < mcy τ (τ 5 i) n ∧ mcy τ (τ 5 i) n ≤ i
          · rw [if_neg (by rw [b2_t ho]; decide), b2_t ⟨i, Nat.le_refl _, by omega, h4, g6, g7, h5, ho⟩]
          · rw [if_pos (b2_f ho)]
            exact skip (fun z => ho z.2.2.2.2)
      · rw [if_neg (fun z => hx (nI_inj (by omega) (by omega) z))]
        exact skip (fun z => hx (by
          have z1 := nI_inj (by omega) (by omega) (g6.symm.trans z.2.1)
          have z2 := nI_inj (by omega) (by omega) (g7.symm.trans z.2.2.1)
          rw [z1, z2]))
    · rw [if_neg h4]
      exact skip (fun z => h4 z.1)
theorem H_lk (σ τ : JS) (n c d : Nat) (hA : tA σ τ n c) (hn : n ≤ 120) (hd : 8 * d ≤ n) (h1 : σ 100 1 = nI d) (ho : ∀ j : Nat, j < 4 → mcy τ (nI j) n = 0 ∨ 8 * d < mcy τ (nI j) n) (j f r : Nat) (hf : f < 3) (hr : r < 8) (hc : c ≤ 3) : mJ_isLockedByAnother σ (nI j) (nI (8 * f + r)) = some (b2 (mlk τ (nI j) (nI f) (nI r) n)) := by
  unfold mJ_isLockedByAnother
  rw [H_start0 σ d h1, jbn_s, H_lk_L σ τ n c hA hn j f r hf hr hc (n - 8 * d) (8 * d + 1) 999 (by omega) (by omega) (by omega)]
  congr 1
  refine b2_c ⟨?_, ?_⟩
  · rintro ⟨k, h1, h2, h4, h6, h7, h5, h8, h9⟩
    obtain ⟨t1, t2, ⟨i, hi, t3⟩, t4⟩ := hA.1.2.2 k (by omega) h2
    rw [t3] at h5 h8 h9
    exact ⟨i, hi, h5, (mce_iff τ (nI i) _ n).mpr ⟨h8, k, h9, h2, t3, decide_eq_true ⟨h6, h7⟩⟩⟩
  · rintro ⟨i, hi, hne, he⟩
    obtain ⟨h8, k, h9, h2, h5, hG⟩ := (mce_iff τ (nI i) _ n).mp he
    have hG2 := of_decide_eq_true hG
    have h4 := mcy_kd τ (nI i) n k h8 h9 h2 h5
    refine ⟨k, ?_, h2, h4, hG2.1, hG2.2, by rw [h5]; exact hne, by rw [h5]; exact h8, by rw [h5]; exact h9⟩
    rcases ho i hi with z | z <;> omega
theorem H_room (σ : JS) (n d : Nat) (h0 : σ 100 0 = nI n) (h1 : σ 100 1 = nI d) (hd2 : d ≤ 1000) : mJ_room σ = some (nI (mcap d) - nI n) := by
  unfold mJ_room mcap
  rw [h0, h1, show (6 : Int32) = nI 6 from rfl, nI_add, l8, pk_mul, show (120 : Int32) = nI 120 from rfl, jmn_n]
  by_cases h : 8 * (d + 6) < 120
  · rw [if_pos (nI_lt h (by omega)), if_pos h]
  · rw [if_neg (nI_nlt (by omega) (by omega)), if_neg h]
theorem H_res_step (σ τ : JS) (n j a fuel : Nat) (hC : tC σ τ n) (hn : n ≤ 120) (hj : j < 3) : mJ_reserve_L4 σ (fuel + 1) (nI a) (nI j) = mJ_reserve_L4 σ fuel (nI (a + mr1 τ j n)) (nI (j + 1)) := by
  have h0 := mcn_mcy τ (nI j) n
  rw [mJ_reserve_L4, if_neg (by rw [l3]; exact nI_ge (by omega) (by omega)), H_open σ τ n j hC hn (by omega), jbn_s, nI_1]
  unfold mr1
  by_cases h : 0 < mcy τ (nI j) n
  · rw [if_neg (by rw [b2_t h]; decide), jrd_n _ _ _ _ _ (by omega) (by decide), (hC j (by omega)).2.1, nI_1, nI_add, if_neg (by omega)]
  · rw [if_pos (b2_f h), if_pos (by omega)]; rfl
theorem H_res (σ τ : JS) (n : Nat) (hC : tC σ τ n) (hn : n ≤ 120) (h3 : mcy τ (nI 3) n = 0) : mJ_reserve σ = some (nI (mrs τ n)) := by
  unfold mJ_reserve
  rw [show (0 : Int32) = nI 0 from rfl, H_res_step σ τ n 0 0 998 hC hn (by omega), H_res_step σ τ n 1 _ 997 hC hn (by omega), H_res_step σ τ n 2 _ 996 hC hn (by omega), mJ_reserve_L4, if_pos (by decide)]
  have e : mr1 τ 3 n = 0 := by unfold mr1; rw [if_pos ((mcn_mcy τ (nI 3) n).mpr h3)]
  unfold mrs
  rw [Nat.zero_add, e]
  rfl
theorem mob_get (τ : JS) (k f : Nat) (hf : f < 3) : (((nI (mbo τ k)) >>> (nI f &&& 31)) &&& (1 : Int32)) = 0 ↔ mob τ (nI f) k = false := by
  unfold mbo
  rw [mb_get _ _ _ f hf]
  rcases (show f = 0 ∨ f = 1 ∨ f = 2 by omega) with rfl | rfl | rfl <;> simp
theorem H_bnd (σ τ : JS) (n f k : Nat) (hO : tO σ τ n) (h0 : σ 100 0 = nI n) (hn : n ≤ 120) (hf : f < 3) (hk : k ≤ n) : mJ_isBoundary σ (nI f) (nI k) = some (b2 (¬ mon τ (nI f) k)) := by
  unfold mJ_isBoundary
  rw [if_neg (nI_pos (by omega)), h0, if_neg (nI_nlt hk (by omega)), jrd_n _ _ _ _ _ (by omega) (by decide), hO k hk]
  by_cases h : mob τ (nI f) k = false
  · rw [if_pos ((mob_get τ k f hf).mpr h), b2_t (by rw [mon_mob, h]; simp)]
  · rw [if_neg (fun z => h ((mob_get τ k f hf).mp z)), b2_f (by rw [mon_mob]; simpa using h)]
theorem H_on (σ τ : JS) (n f : Nat) (hO : tO σ τ n) (h0 : σ 100 0 = nI n) (hn : n ≤ 120) (hf : f < 3) : mJ_isCycleOn σ (nI f) = some (b2 (mon τ (nI f) n)) := by
  unfold mJ_isCycleOn
  rw [h0, H_bnd σ τ n f n hO h0 hn hf (Nat.le_refl _), jbn_s]
  by_cases h : mon τ (nI f) n
  · rw [if_pos (b2_f (fun z => z h)), b2_t h]
  · rw [if_neg (by rw [b2_t h]; decide), b2_f h]
