/-! the model's questions -/
def mof (τ : JS) (f : Int32) : Nat → Bool := fun k => decide (τ 6 k = f)
def mofr (τ : JS) (f r : Int32) : Nat → Bool := fun k => decide (τ 6 k = f ∧ τ 7 k = r)
def mon (τ : JS) (f : Int32) (n : Nat) : Prop := ∃ j : Nat, j < 4 ∧ mce τ (nI j) (mof τ f) n = true
def mlk (τ : JS) (j f r : Int32) (n : Nat) : Prop := ∃ i : Nat, i < 4 ∧ nI i ≠ j ∧ mce τ (nI i) (mofr τ f r) n = true
theorem M_on_L (K : Int32 → Int32 → Option Int32) (τ : JS) (f j : Int32) (n c : Nat) (hn : n ≤ 120) (hc : 0 < c) (hc2 : c ≤ n) : ∀ (d i fuel : Nat) (p : Prop), i + d = n + 1 → 0 < i → d < fuel → mM_isOn_L24 K τ f (nI n) j (nI c) fuel (b2 p) (nI i) = K (b2 (p ∨ ∃ k, i ≤ k ∧ k ≤ n ∧ τ 5 k = j ∧ τ 6 k = f)) (nI (n + 1))
  | 0, i, 0, _, _, _, h => absurd h (Nat.not_lt_zero _)
  | 0, i, fuel + 1, p, hi, _, _ => by
    have e : i = n + 1 := by omega
    subst e
    rw [mM_isOn_L24, if_pos (nI_lt (by omega) (by omega))]
    congr 1
    refine b2_c ⟨Or.inl, ?_⟩
    rintro (h | ⟨k, h1, h2, -⟩)
    · exact h
    · omega
  | d + 1, i, 0, _, _, _, h => absurd h (Nat.not_lt_zero _)
  | d + 1, i, fuel + 1, p, hi, h0, h => by
    have key : ∀ v : Int32, v = b2 (p ∨ (τ 5 i = j ∧ τ 6 i = f)) → mM_isOn_L24 K τ f (nI n) j (nI c) fuel v (nI i + 1) = K (b2 (p ∨ ∃ k, i ≤ k ∧ k ≤ n ∧ τ 5 k = j ∧ τ 6 k = f)) (nI (n + 1)) := by
      intro v hv
      rw [hv, nI_1, M_on_L K τ f j n c hn hc hc2 d (i + 1) fuel _ (by omega) (by omega) (by omega)]
      congr 1
      refine b2_c ⟨?_, ?_⟩
      · rintro ((h | h) | ⟨k, h1, h2, h3⟩)
        · exact Or.inl h
        · exact Or.inr ⟨i, Nat.le_refl _, by omega, h⟩
        · exact Or.inr ⟨k, by omega, h2, h3⟩
      · rintro (h | ⟨k, h1, h2, h3⟩)
        · exact Or.inl (Or.inl h)
        · by_cases hk : k = i
          · subst hk; exact Or.inl (Or.inr h3)
          · exact Or.inr ⟨k, by omega, h2, h3⟩
    rw [mM_isOn_L24, if_neg (nI_nlt (by omega) (by omega)), if_neg (nI_nle hc (by omega))]
    by_cases hp : p
    · rw [if_neg (by rw [b2_t hp]; decide)]
      exact key _ (b2_t (Or.inl hp)).symm
    · rw [if_pos (b2_f hp), jrd_n _ _ _ _ _ (by omega) (by decide)]
      by_cases h5 : τ 5 i = j
      · rw [if_pos h5, jrd_n _ _ _ _ _ (by omega) (by decide)]
        by_cases h6 : τ 6 i = f
        · rw [if_pos h6]; exact key _ (b2_t (Or.inr ⟨h5, h6⟩)).symm
        · rw [if_neg h6]; exact key _ (b2_f (fun z => z.elim hp (fun z => h6 z.2))).symm
      · rw [if_neg h5]; exact key _ (b2_f (fun z => z.elim hp (fun z => h5 z.1))).symm
theorem M_on_J (τ : JS) (f : Int32) (n : Nat) (hn : n ≤ 120) : ∀ (d j fuel : Nat) (p : Prop), j + d = 4 → d < fuel → mM_isOn_L5 τ f (nI n) fuel (b2 p) (nI j) = some (b2 (p ∨ ∃ i, j ≤ i ∧ i < 4 ∧ mce τ (nI i) (mof τ f) n = true))
  | 0, j, 0, _, _, h => absurd h (Nat.not_lt_zero _)
  | 0, j, fuel + 1, p, hj, _ => by
    have e : j = 4 := by omega
    subst e
    rw [mM_isOn_L5, if_pos (by decide), jzc_b]
    congr 1
    refine b2_c ⟨Or.inl, ?_⟩
    rintro (h | ⟨i, h1, h2, -⟩)
    · exact h
    · omega
  | d + 1, j, 0, _, _, h => absurd h (Nat.not_lt_zero _)
  | d + 1, j, fuel + 1, p, hj, h => by
    have hle := mcy_le τ (nI j) n
    have key : ∀ v : Int32, v = b2 (p ∨ mce τ (nI j) (mof τ f) n = true) → mM_isOn_L5 τ f (nI n) fuel v (nI j + 1) = some (b2 (p ∨ ∃ i, j ≤ i ∧ i < 4 ∧ mce τ (nI i) (mof τ f) n = true)) := by
      intro v hv
      rw [hv, nI_1, M_on_J τ f n hn d (j + 1) fuel _ (by omega) (by omega)]
      congr 1
      refine b2_c ⟨?_, ?_⟩
      · rintro ((h | h) | ⟨i, h1, h2, h3⟩)
        · exact Or.inl h
        · exact Or.inr ⟨j, Nat.le_refl _, by omega, h⟩
        · exact Or.inr ⟨i, by omega, h2, h3⟩
      · rintro (h | ⟨i, h1, h2, h3⟩)
        · exact Or.inl (Or.inl h)
        · by_cases hi : i = j
          · subst hi; exact Or.inl (Or.inr h3)
          · exact Or.inr ⟨i, by omega, h2, h3⟩
    rw [mM_isOn_L5, if_neg (by rw [l4]; exact nI_ge (by omega) (by omega)), M_cyc τ (nI j) n hn, jbn_s]
    by_cases h0 : mcy τ (nI j) n = 0
    · rw [h0, mM_isOn_L24]
      have hfin := key (b2 p) (b2_c ⟨Or.inl, fun z => z.elim id (fun z => by rw [mce_cy0 τ (nI j) _ n h0] at z; cases z)⟩)
      by_cases hz : nI n < nI 0
      · rw [if_pos hz]; exact hfin
      · rw [if_neg hz, if_pos (by decide)]; exact hfin
    · rw [M_on_L _ τ f (nI j) n (mcy τ (nI j) n) hn (by omega) hle (n + 1 - mcy τ (nI j) n) (mcy τ (nI j) n) 999 p (by omega) (by omega) (by omega)]
      refine key _ (b2_c ?_)
      rw [mce_iff]
      unfold mof
      simp only [decide_eq_true_eq]
      constructor
      · rintro (h | ⟨k, h1, h2, h3, h4⟩)
        · exact Or.inl h
        · exact Or.inr ⟨by omega, k, h1, h2, h3, h4⟩
      · rintro (h | ⟨-, k, h1, h2, h3, h4⟩)
        · exact Or.inl h
        · exact Or.inr ⟨k, h1, h2, h3, h4⟩
theorem M_on (τ : JS) (f : Int32) (n : Nat) (hn : n ≤ 120) : mM_isOn τ f (nI n) = some (b2 (mon τ f n)) := by
  unfold mM_isOn
  have h := M_on_J τ f n hn 4 0 999 False (by omega) (by omega)
  rw [b2_f (fun z => z)] at h
  rw [show (0 : Int32) = nI 0 from rfl] at h ⊢
  rw [h]
  congr 1
  refine b2_c ⟨?_, ?_⟩
  · rintro (h | ⟨i, -, h2, h3⟩)
    · exact h.elim
    · exact ⟨i, h2, h3⟩
  · rintro ⟨i, h2, h3⟩
    exact Or.inr ⟨i, Nat.zero_le _, h2, h3⟩
theorem M_lk_L (K : Int32 → Int32 → Option Int32) (τ : JS) (j f r oj : Int32) (n c : Nat) (hl : τ 100 2 = nI n) (hn : n ≤ 120) (hc : 0 < c) (hc2 : c ≤ n) (hne : ¬ oj = j) : ∀ (d i fuel : Nat) (p : Prop), i + d = n + 1 → 0 < i → d < fuel → mM_isLocked_L28 K τ j f r oj (nI c) fuel (b2 p) (nI i) = K (b2 (p ∨ ∃ k, i ≤ k ∧ k ≤ n ∧ τ 5 k = oj ∧ τ 6 k = f ∧ τ 7 k = r)) (nI (n + 1))
  | 0, i, 0, _, _, _, h => absurd h (Nat.not_lt_zero _)
  | 0, i, fuel + 1, p, hi, _, _ => by
    have e : i = n + 1 := by omega
    subst e
    rw [mM_isLocked_L28, hl, if_pos (nI_lt (by omega) (by omega))]
    congr 1
    refine b2_c ⟨Or.inl, ?_⟩
    rintro (h | ⟨k, h1, h2, -⟩)
    · exact h
    · omega
  | d + 1, i, 0, _, _, _, h => absurd h (Nat.not_lt_zero _)
  | d + 1, i, fuel + 1, p, hi, h0, h => by
    have key : ∀ v : Int32, v = b2 (p ∨ (τ 5 i = oj ∧ τ 6 i = f ∧ τ 7 i = r)) → mM_isLocked_L28 K τ j f r oj (nI c) fuel v (nI i + 1) = K (b2 (p ∨ ∃ k, i ≤ k ∧ k ≤ n ∧ τ 5 k = oj ∧ τ 6 k = f ∧ τ 7 k = r)) (nI (n + 1)) := by
      intro v hv
      rw [hv, nI_1, M_lk_L K τ j f r oj n c hl hn hc hc2 hne d (i + 1) fuel _ (by omega) (by omega) (by omega)]
      congr 1
      refine b2_c ⟨?_, ?_⟩
      · rintro ((h | h) | ⟨k, h1, h2, h3⟩)
        · exact Or.inl h
        · exact Or.inr ⟨i, Nat.le_refl _, by omega, h⟩
        · exact Or.inr ⟨k, by omega, h2, h3⟩
      · rintro (h | ⟨k, h1, h2, h3⟩)
        · exact Or.inl (Or.inl h)
        · by_cases hk : k = i
          · subst hk; exact Or.inl (Or.inr h3)
          · exact Or.inr ⟨k, by omega, h2, h3⟩
    rw [mM_isLocked_L28, hl, if_neg (nI_nlt (by omega) (by omega)), if_neg (nI_nle hc (by omega)), if_neg hne]
    by_cases hp : p
    · rw [if_neg (by rw [b2_t hp]; decide)]
      exact key _ (b2_t (Or.inl hp)).symm
    · rw [if_pos (b2_f hp), jrd_n _ _ _ _ _ (by omega) (by decide)]
      by_cases h5 : τ 5 i = oj
      · rw [if_pos h5, jrd_n _ _ _ _ _ (by omega) (by decide)]
        by_cases h6 : τ 6 i = f
        · rw [if_pos h6, jrd_n _ _ _ _ _ (by omega) (by decide)]
          by_cases h7 : τ 7 i = r
          · rw [if_pos h7]; exact key _ (b2_t (Or.inr ⟨h5, h6, h7⟩)).symm
          · rw [if_neg h7]; exact key _ (b2_f (fun z => z.elim hp (fun z => h7 z.2.2))).symm
        · rw [if_neg h6]; exact key _ (b2_f (fun z => z.elim hp (fun z => h6 z.2.1))).symm
      · rw [if_neg h5]; exact key _ (b2_f (fun z => z.elim hp (fun z => h5 z.1))).symm
theorem M_lk_J (τ : JS) (j f r : Int32) (n : Nat) (hl : τ 100 2 = nI n) (hn : n ≤ 120) : ∀ (d i fuel : Nat) (p : Prop), i + d = 4 → d < fuel → mM_isLocked_L6 τ j f r fuel (b2 p) (nI i) = some (b2 (p ∨ ∃ k, i ≤ k ∧ k < 4 ∧ nI k ≠ j ∧ mce τ (nI k) (mofr τ f r) n = true))
  | 0, i, 0, _, _, h => absurd h (Nat.not_lt_zero _)
  | 0, i, fuel + 1, p, hj, _ => by
    have e : i = 4 := by omega
    subst e
    rw [mM_isLocked_L6, if_pos (by decide), jzc_b]
    congr 1
    refine b2_c ⟨Or.inl, ?_⟩
    rintro (h | ⟨i, h1, h2, -⟩)
    · exact h
    · omega
  | d + 1, i, 0, _, _, h => absurd h (Nat.not_lt_zero _)
  | d + 1, i, fuel + 1, p, hj, h => by
    have hle := mcy_le τ (nI i) n
    have key : ∀ v : Int32, v = b2 (p ∨ (nI i ≠ j ∧ mce τ (nI i) (mofr τ f r) n = true)) → mM_isLocked_L6 τ j f r fuel v (nI i + 1) = some (b2 (p ∨ ∃ k, i ≤ k ∧ k < 4 ∧ nI k ≠ j ∧ mce τ (nI k) (mofr τ f r) n = true)) := by
      intro v hv
      rw [hv, nI_1, M_lk_J τ j f r n hl hn d (i + 1) fuel _ (by omega) (by omega)]
      congr 1
      refine b2_c ⟨?_, ?_⟩
      · rintro ((h | h) | ⟨k, h1, h2, h3⟩)
        · exact Or.inl h
        · exact Or.inr ⟨i, Nat.le_refl _, by omega, h⟩
        · exact Or.inr ⟨k, by omega, h2, h3⟩
      · rintro (h | ⟨k, h1, h2, h3⟩)
        · exact Or.inl (Or.inl h)
        · by_cases hi : k = i
          · subst hi; exact Or.inl (Or.inr h3)
          · exact Or.inr ⟨k, by omega, h2, h3⟩
    rw [mM_isLocked_L6, if_neg (by rw [l4]; exact nI_ge (by omega) (by omega)), hl, M_cyc τ (nI i) n hn, jbn_s]
    by_cases h0 : mcy τ (nI i) n = 0
    · rw [h0, mM_isLocked_L28, hl]
      have hfin := key (b2 p) (b2_c ⟨Or.inl, fun z => z.elim id (fun z => by have z2 := z.2; rw [mce_cy0 τ (nI i) _ n h0] at z2; cases z2)⟩)
      by_cases hz : nI n < nI 0
      · rw [if_pos hz]; exact hfin
      · rw [if_neg hz, if_pos (by decide)]; exact hfin
    · by_cases hne : nI i = j
      · rw [mM_isLocked_L28, hl]
        have hfin := key (b2 p) (b2_c ⟨Or.inl, fun z => z.elim id (fun z => absurd hne z.1)⟩)
        by_cases hz : nI n < nI (mcy τ (nI i) n)
        · rw [if_pos hz]; exact hfin
        · rw [if_neg hz, if_neg (nI_nle (by omega) (by omega)), if_pos hne]; exact hfin
      · rw [M_lk_L _ τ j f r (nI i) n (mcy τ (nI i) n) hl hn (by omega) hle hne (n + 1 - mcy τ (nI i) n) (mcy τ (nI i) n) 999 p (by omega) (by omega) (by omega)]
        refine key _ (b2_c ?_)
        rw [mce_iff]
        unfold mofr
        simp only [decide_eq_true_eq]
        constructor
        · rintro (h | ⟨k, h1, h2, h3, h4⟩)
          · exact Or.inl h
          · exact Or.inr ⟨hne, by omega, k, h1, h2, h3, h4⟩
        · rintro (h | ⟨-, -, k, h1, h2, h3, h4⟩)
          · exact Or.inl h
          · exact Or.inr ⟨k, h1, h2, h3, h4⟩
theorem M_lk (τ : JS) (j f r : Int32) (n : Nat) (hl : τ 100 2 = nI n) (hn : n ≤ 120) : mM_isLocked τ j f r = some (b2 (mlk τ j f r n)) := by
  unfold mM_isLocked
  have h := M_lk_J τ j f r n hl hn 4 0 999 False (by omega) (by omega)
  rw [b2_f (fun z => z)] at h
  rw [show (0 : Int32) = nI 0 from rfl] at h ⊢
  rw [h]
  congr 1
  refine b2_c ⟨?_, ?_⟩
  · rintro (h | ⟨i, -, h2, h3⟩)
    · exact h.elim
    · exact ⟨i, h2, h3⟩
  · rintro ⟨i, h2, h3⟩
    exact Or.inr ⟨i, Nat.zero_le _, h2, h3⟩
/-- the reserve -/
def mr1 (τ : JS) (j : Nat) (n : Nat) : Nat := if mcn τ (nI j) n = 0 then 0 else mcn τ (nI j) n + 1
def mrs (τ : JS) (n : Nat) : Nat := mr1 τ 0 n + mr1 τ 1 n + mr1 τ 2 n + mr1 τ 3 n
theorem M_res_step (τ : JS) (n j a fuel : Nat) (hl : τ 100 2 = nI n) (hn : n ≤ 120) (hj : j < 4) (ha : a < 2 ^ 20) : mM_reserve_L4 τ (fuel + 1) (nI a) (nI j) = mM_reserve_L4 τ fuel (nI (a + mr1 τ j n)) (nI (j + 1)) := by
  have hle := (mcn_le τ (nI j) n).2
  rw [mM_reserve_L4, if_neg (by rw [l4]; exact nI_ge (by omega) (by omega)), M_cnt τ (nI j) n hl hn, jbn_s, nI_1]
  unfold mr1
  by_cases h0 : mcn τ (nI j) n = 0
  · rw [h0, if_pos (by decide), if_pos rfl]; rfl
  · rw [if_neg (nI_nle (by omega) (by omega)), if_neg h0, nI_add, nI_1]; rfl
theorem M_res (τ : JS) (n : Nat) (hl : τ 100 2 = nI n) (hn : n ≤ 120) : mM_reserve τ = some (nI (mrs τ n)) := by
  have b : ∀ j, mr1 τ j n ≤ 121 := fun j => by have := (mcn_le τ (nI j) n).2; unfold mr1; split <;> omega
  have b0 := b 0
  have b1 := b 1
  have b2' := b 2
  have b3 := b 3
  unfold mM_reserve
  rw [show (0 : Int32) = nI 0 from rfl, M_res_step τ n 0 0 998 hl hn (by omega) (by omega), M_res_step τ n 1 _ 997 hl hn (by omega) (by omega), M_res_step τ n 2 _ 996 hl hn (by omega) (by omega), M_res_step τ n 3 _ 995 hl hn (by omega) (by omega), mM_reserve_L4, if_pos (by decide)]
  unfold mrs
  rw [Nat.zero_add]
def mcap (d : Nat) : Nat := if 8 * (d + 6) < 120 then 8 * (d + 6) else 120
theorem M_room (τ : JS) (n d : Nat) (hl : τ 100 2 = nI n) (hd : τ 100 3 = nI d) (hd2 : d ≤ 1000) : mM_room τ = some (nI (mcap d) - nI n) := by
  unfold mM_room mcap
  rw [hl, hd, show (6 : Int32) = nI 6 from rfl, nI_add, l8, pk_mul, show (120 : Int32) = nI 120 from rfl]
  by_cases h : 8 * (d + 6) < 120
  · rw [if_neg (nI_ge h (by omega)), if_pos h]
  · rw [if_pos (nI_le (by omega) (by omega)), if_neg h]
