/-! the link -/
theorem M_take_L (K : JS → Int32 → Option (Int32 × JS)) (x2 x4 : Int32) (τ : JS) (l i : Nat) (h7 : τ 100 7 = nI l) (hl : l ≤ 16) (hi : i ≤ l) : ∀ (e t fuel : Nat), i + t + e = l → e < fuel → mM_link_L151 K x2 x4 fuel (jwA τ 14 (va_cpy (τ 14) (τ 14) (i + 1) i t)) (nI (i + t)) = K (jwA τ 14 (va_cpy (τ 14) (τ 14) (i + 1) i (l - i))) (nI l)
  | e, t, 0, _, h => absurd h (Nat.not_lt_zero _)
  | 0, t, fuel + 1, ht, _ => by
    have e : i + t = l := by omega
    rw [mM_link_L151, show jwA τ 14 (va_cpy (τ 14) (τ 14) (i + 1) i t) 100 7 = nI l from h7, e, if_pos (nI_le (by omega) (by omega)), show t = l - i by omega]
  | e + 1, t, fuel + 1, ht, h => by
    have ih := M_take_L K x2 x4 τ l i h7 hl hi e (t + 1) fuel (by omega) (by omega)
    rw [mM_link_L151, show jwA τ 14 (va_cpy (τ 14) (τ 14) (i + 1) i t) 100 7 = nI l from h7, if_neg (nI_ge (by omega) (by omega)), nI_1, jrd_n _ _ _ _ _ (by omega) (by decide), jwr_n _ _ _ _ _ _ (by omega) (by decide)]
    have e1 : jw2 (jwA τ 14 (va_cpy (τ 14) (τ 14) (i + 1) i t)) 14 (i + t) (jwA τ 14 (va_cpy (τ 14) (τ 14) (i + 1) i t) 14 (i + t + 1)) = jwA τ 14 (va_cpy (τ 14) (τ 14) (i + 1) i (t + 1)) := by
      funext a b
      rw [jw2_at, jwA_at, jwA_at, jwA_at]
      by_cases ha : a = 14
      · rw [if_pos ha, if_pos ha, if_pos ha, if_pos rfl, pk_cpy_out (j := i + t + 1) (by omega)]
        by_cases hb : b = i + t
        · rw [if_pos hb, hb, pk_cpy_in (by omega) (by omega)]
          congr 1; omega
        · rw [if_neg hb]
          by_cases hb2 : i ≤ b ∧ b < i + t
          · rw [pk_cpy_in (by omega) (by omega), pk_cpy_in (by omega) (by omega)]
          · rw [pk_cpy_out (by omega), pk_cpy_out (by omega)]
      · rw [if_neg ha, if_neg ha, if_neg ha]
    rw [e1]
    exact ih
theorem cpy_14 (τ : JS) (i : Nat) : jwA τ 14 (va_cpy (τ 14) (τ 14) (i + 1) i 0) = τ := by
  funext a b
  rw [jwA_at]
  by_cases h : a = 14
  · rw [if_pos h, h, pk_cpy_out (by omega)]
  · rw [if_neg h]
def tRec (σ τ : JS) (n a : Nat) : Prop := (∀ k, k ≤ 120 → σ 25 k = τ 15 k) ∧ (∀ k, τ 15 k ≠ 0 → 1 ≤ k ∧ k ≤ n) ∧ σ 100 4 = nI a ∧ τ 100 8 = nI a ∧ a ≤ n ∧ ∀ f r : Nat, f < 3 → r < 8 → σ 24 (8 * f + r) = mvl τ (nI f) (nI r) a
theorem rec_L {n c : Nat} (hn : n ≤ 120) (hc : c ≤ 3) : ∀ (e fuel fuel' a : Nat) (σ τ : JS), a + e = n → e < fuel → e < fuel' → tA σ τ n c → tRec σ τ n a → ∃ (σ' τ' : JS) (a' : Nat), mR_receive_L15 fuel σ = some σ' ∧ mM_link_L201 fuel' τ = some (τ 100 7, τ') ∧ tRec σ' τ' n a' ∧ (∀ q, q ≠ 24 → q ≠ 100 → σ' q = σ q) ∧ (∀ q, q ≠ 4 → σ' 100 q = σ 100 q) ∧ (∀ q, q ≠ 100 → τ' q = τ q) ∧ (∀ q, q ≠ 8 → τ' 100 q = τ 100 q)
  | e, 0, _, _, _, _, _, h, _, _, _ => absurd h (Nat.not_lt_zero _)
  | e, _ + 1, 0, _, _, _, _, _, h, _, _ => absurd h (Nat.not_lt_zero _)
  | 0, fuel + 1, fuel' + 1, a, σ, τ, ha, _, _, hA, hT => by
    obtain ⟨r1, r2, r3, r4, r5, r6⟩ := hT
    have hz : τ 15 (a + 1) = 0 := by
      by_cases hz : τ 15 (a + 1) = 0
      · exact hz
      · have := r2 (a + 1) hz; omega
    refine ⟨σ, τ, a, ?_, ?_, ⟨r1, r2, r3, r4, r5, r6⟩, fun _ _ _ => rfl, fun _ _ => rfl, fun _ _ => rfl, fun _ _ => rfl⟩
    · rw [mR_receive_L15, r3, show (120 : Int32) = nI 120 from rfl]
      by_cases h120 : 120 ≤ a
      · rw [if_pos (nI_le h120 (by omega))]
      · rw [if_neg (nI_ge (by omega) (by omega)), nI_1, jrd_n _ _ _ _ _ (by omega) (by decide), r1 _ (by omega), hz, if_pos rfl]
    · rw [mM_link_L201, r4, nI_1, jrd_n _ _ _ _ _ (by omega) (by decide), hz, if_pos rfl]
  | e + 1, fuel + 1, fuel' + 1, a, σ, τ, ha, h, h', hA, hT => by
    obtain ⟨r1, r2, r3, r4, r5, r6⟩ := hT
    by_cases hz : τ 15 (a + 1) = 0
    · refine ⟨σ, τ, a, ?_, ?_, ⟨r1, r2, r3, r4, r5, r6⟩, fun _ _ _ => rfl, fun _ _ => rfl, fun _ _ => rfl, fun _ _ => rfl⟩
      · rw [mR_receive_L15, r3, show (120 : Int32) = nI 120 from rfl, if_neg (nI_ge (by omega) (by omega)), nI_1, jrd_n _ _ _ _ _ (by omega) (by decide), r1 _ (by omega), hz, if_pos rfl]
      · rw [mM_link_L201, r4, nI_1, jrd_n _ _ _ _ _ (by omega) (by decide), hz, if_pos rfl]
    · obtain ⟨t1, t2, t3, t4⟩ := hA.1.2.2 (a + 1) (by omega) (by omega)
      have hτ : ∀ q, q ≠ 100 → jw2 τ 100 8 (nI (a + 1)) q = τ q := fun q g => by unfold jw2; rw [if_neg g]
      have hs : jsame τ (jw2 τ 100 8 (nI (a + 1))) (a + 1) := jsame_rows (fun q g1 g2 => hτ q (by omega)) _
      have m100 : ∀ q, q ≠ 8 → jw2 τ 100 8 (nI (a + 1)) 100 q = τ 100 q := fun q g => by rw [jw2_at, if_pos rfl, if_neg g]
      have sM : mM_link_L201 (fuel' + 1) τ = mM_link_L201 fuel' (jw2 τ 100 8 (nI (a + 1))) := by
        rw [mM_link_L201, r4, nI_1, jrd_n _ _ _ _ _ (by omega) (by decide), if_neg hz, jst_n]
      have fin : ∀ X : JS, mR_receive_L15 (fuel + 1) σ = mR_receive_L15 fuel X → (∀ q, q ≠ 24 → q ≠ 100 → X q = σ q) → (∀ q, q ≠ 4 → X 100 q = σ 100 q) → X 100 4 = nI (a + 1) → (∀ f r : Nat, f < 3 → r < 8 → X 24 (8 * f + r) = mvl τ (nI f) (nI r) (a + 1)) → ∃ (σ' τ' : JS) (a' : Nat), mR_receive_L15 (fuel + 1) σ = some σ' ∧ mM_link_L201 (fuel' + 1) τ = some (τ 100 7, τ') ∧ tRec σ' τ' n a' ∧ (∀ q, q ≠ 24 → q ≠ 100 → σ' q = σ q) ∧ (∀ q, q ≠ 4 → σ' 100 q = σ 100 q) ∧ (∀ q, q ≠ 100 → τ' q = τ q) ∧ (∀ q, q ≠ 8 → τ' 100 q = τ 100 q) := by
        intro X e1 x1 x2 x3 x4
        have hA2 : tA X (jw2 τ 100 8 (nI (a + 1))) n c := tA_fr (fun q g1 g2 => x1 q (by omega) (by omega)) (x2 0 (by decide)) (fun q g1 g2 => hτ q (by omega)) (m100 2 (by decide)) hA
        have hT2 : tRec X (jw2 τ 100 8 (nI (a + 1))) n (a + 1) := ⟨fun k hk => by rw [x1 25 (by decide) (by decide), hτ 15 (by decide)]; exact r1 k hk, fun k hk => by rw [hτ 15 (by decide)] at hk; exact r2 k hk, x3, by simp [jw2_at], by omega, fun f r hf hr => by rw [mvl_same _ _ hs]; exact x4 f r hf hr⟩
        obtain ⟨σ', τ', a', k1, k2, k3, k4, k5, k6, k7⟩ := rec_L hn hc e fuel fuel' (a + 1) X _ (by omega) (by omega) (by omega) hA2 hT2
        refine ⟨σ', τ', a', by rw [e1, k1], ?_, k3, fun q g1 g2 => by rw [k4 q g1 g2, x1 q g1 g2], fun q g => by rw [k5 q g, x2 q g], fun q g => by rw [k6 q g, hτ q g], fun q g => by rw [k7 q g, m100 q g]⟩
        rw [sM, k2, m100 7 (by decide)]
      have sH : mR_receive_L15 (fuel + 1) σ = if σ 6 (a + 1) = (1 : Int32) then jwr (jw2 σ 100 4 (nI (a + 1))) 24 24 (σ 8 (a + 1)) (σ 10 (a + 1)) fun σ18 => mR_receive_L15 fuel σ18 else mR_receive_L15 fuel (jw2 σ 100 4 (nI (a + 1))) := by
        rw [mR_receive_L15, r3, show (120 : Int32) = nI 120 from rfl, if_neg (nI_ge (by omega) (by omega)), nI_1, jrd_n _ _ _ _ _ (by omega) (by decide), r1 _ (by omega), if_neg hz, jst_n, show jw2 σ 100 4 (nI (a + 1)) 100 4 = nI (a + 1) by simp [jw2_at], jrd_n _ _ _ _ _ (by omega) (by decide), jrd_n _ _ _ _ _ (by omega) (by decide), jrd_n _ _ _ _ _ (by omega) (by decide)]
        rfl
      by_cases h4 : τ 4 (a + 1) = 1
      · obtain ⟨b1, b2', b3, f, r, hf, hr, g6, g7, g8⟩ := t4 h4
        refine fin (jw2 (jw2 σ 100 4 (nI (a + 1))) 24 (8 * f + r) (τ 9 (a + 1))) ?_ (fun q g1 g2 => by unfold jw2; rw [if_neg g1, if_neg g2]) (fun q g => by rw [jw2_at, if_neg (by decide), jw2_at, if_pos rfl, if_neg g]) (by simp [jw2_at]) (fun f' r' hf' hr' => ?_)
        · rw [sH, t1, if_pos h4, g8, b2', jwr_n _ _ _ _ _ _ (by omega) (by decide)]
        · rw [jw2_at, if_pos rfl, mvl, h4, g6, g7]
          by_cases hq : 8 * f' + r' = 8 * f + r
          · have q1 : f' = f := by omega
            have q2 : r' = r := by omega
            subst q1; subst q2
            rw [if_pos rfl, if_pos ⟨rfl, rfl, rfl⟩]
          · rw [if_neg hq, if_neg (fun z => hq (by rw [nI_inj (by omega) (by omega) z.2.1, nI_inj (by omega) (by omega) z.2.2]))]
            exact r6 f' r' hf' hr'
      · refine fin (jw2 σ 100 4 (nI (a + 1))) ?_ (fun q g1 g2 => by unfold jw2; rw [if_neg g2]) (fun q g => by rw [jw2_at, if_pos rfl, if_neg g]) (by simp [jw2_at]) (fun f' r' hf' hr' => ?_)
        · rw [sH, t1, if_neg h4]
        · rw [mvl, if_neg (fun z => h4 z.1)]
          exact r6 f' r' hf' hr'
