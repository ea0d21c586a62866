/-! tools of the pure part -/
noncomputable def b2 (p : Prop) : Int32 := @ite Int32 p (Classical.propDecidable p) 1 0
theorem b2_t {p : Prop} (h : p) : b2 p = 1 := by unfold b2; rw [if_pos h]
theorem b2_f {p : Prop} (h : ¬ p) : b2 p = 0 := by unfold b2; rw [if_neg h]
theorem b2_01 (p : Prop) : b2 p = 0 ∨ b2 p = 1 := by
  by_cases h : p
  · exact Or.inr (b2_t h)
  · exact Or.inl (b2_f h)
theorem b2_0 {p : Prop} : b2 p = 0 ↔ ¬ p := by
  by_cases h : p
  · rw [b2_t h]; simp [h]
  · rw [b2_f h]; simp [h]
theorem b2_c {p q : Prop} (h : p ↔ q) : b2 p = b2 q := by rw [propext h]
theorem jrd_n {α : Type} (σ : JS) (k N n : Nat) (K : Int32 → Option α) (h : n < N) (hN : N < 2 ^ 31) : jrd σ k N (nI n) K = K (σ k n) := by
  unfold jrd
  rw [if_neg (nI_in h hN), nI_clamp (by omega)]
theorem jwr_n {α : Type} (σ : JS) (k N n : Nat) (v : Int32) (K : JS → Option α) (h : n < N) (hN : N < 2 ^ 31) : jwr σ k N (nI n) v K = K (jw2 σ k n v) := by
  unfold jwr
  rw [if_neg (nI_in h hN), nI_clamp (by omega)]
theorem jst_n {α : Type} (X : JS) (K : JS → Option α) : jst X K = K X := rfl
theorem jbn_s {α β : Type} (x : β) (K : β → Option α) : jbn (some x) K = K x := rfl
theorem jmn_n {α : Type} (x y : Int32) (K : Int32 → Option α) : jmn x y K = K (if y < x then y else x) := rfl
theorem jzc_b {α : Type} (p : Prop) (K : Option α) : jzc (b2 p) K = K := by unfold jzc; rw [if_pos (b2_01 p)]
theorem jcp_n {α : Type} (σ : JS) (k0 n0 k1 n1 a b c : Nat) (K : JS → Option α) (h0 : a + c ≤ n0) (h1 : b + c ≤ n1) (g0 : n0 < 2 ^ 31) (g1 : n1 < 2 ^ 31) : jcp σ k0 n0 k1 n1 (nI a) (nI b) (nI c) K = K (jwA σ k1 (va_cpy (σ k0) (σ k1) a b c)) := by
  unfold jcp
  have ha := nI_pos (n := a) (by omega)
  have hb := nI_pos (n := b) (by omega)
  have hc := nI_pos (n := c) (by omega)
  rw [nI_clamp (by omega), nI_clamp (by omega), nI_clamp (by omega)]
  rw [if_neg]
  rintro (h | h | h | h | h)
  · exact ha h
  · exact hb h
  · exact hc h
  · omega
  · omega
theorem jw2_at (σ : JS) (k j : Nat) (v : Int32) (a b : Nat) : jw2 σ k j v a b = if a = k then (if b = j then v else σ a b) else σ a b := by
  unfold jw2
  by_cases h : a = k
  · subst h; rw [if_pos rfl, if_pos rfl]; rfl
  · rw [if_neg h, if_neg h]
theorem jwA_at (σ : JS) (k : Nat) (f : Nat → Int32) (a b : Nat) : jwA σ k f a b = if a = k then f b else σ a b := by
  unfold jwA
  by_cases h : a = k
  · rw [if_pos h, if_pos h]
  · rw [if_neg h, if_neg h]
theorem l0 : (0 : Int32) = nI 0 := rfl
theorem l1 : (1 : Int32) = nI 1 := rfl
theorem l2 : (2 : Int32) = nI 2 := rfl
theorem l3 : (3 : Int32) = nI 3 := rfl
theorem l4 : (4 : Int32) = nI 4 := rfl
theorem l8 : (8 : Int32) = nI 8 := rfl
theorem nI_inj {a b : Nat} (ha : a < 2 ^ 31) (hb : b < 2 ^ 31) (h : nI a = nI b) : a = b := (nI_eq ha hb).mp h
/-- the last change of a record up to a number, 0 for none -/
def mlt (τ : JS) (f r : Int32) : Nat → Nat
  | 0 => 0
  | n + 1 => if τ 4 (n + 1) = 1 ∧ τ 6 (n + 1) = f ∧ τ 7 (n + 1) = r then n + 1 else mlt τ f r n
theorem mlt_le (τ : JS) (f r : Int32) : ∀ n : Nat, mlt τ f r n ≤ n
  | 0 => Nat.le_refl 0
  | n + 1 => by
    have ih := mlt_le τ f r n
    simp only [mlt]
    split <;> omega
theorem mlt_val (τ : JS) (f r : Int32) : ∀ n : Nat, mvl τ f r n = if mlt τ f r n = 0 then 0 else τ 9 (mlt τ f r n)
  | 0 => rfl
  | n + 1 => by
    have ih := mlt_val τ f r n
    by_cases h : τ 4 (n + 1) = 1 ∧ τ 6 (n + 1) = f ∧ τ 7 (n + 1) = r
    · rw [show mvl τ f r (n + 1) = τ 9 (n + 1) from if_pos h, show mlt τ f r (n + 1) = n + 1 from if_pos h, if_neg (Nat.succ_ne_zero n)]
    · rw [show mvl τ f r (n + 1) = mvl τ f r n from if_neg h, show mlt τ f r (n + 1) = mlt τ f r n from if_neg h]; exact ih
theorem M_val_L (K : Int32 → Option Int32) (τ : JS) (f r : Int32) : ∀ (n fuel : Nat), n < fuel → n ≤ 120 → mM_valueAt_L3 K τ f r fuel (nI n) = K (nI (mlt τ f r n))
  | 0, 0, h, _ => absurd h (Nat.not_lt_zero _)
  | 0, fuel + 1, _, _ => by rw [mM_valueAt_L3, if_pos (by decide)]; rfl
  | n + 1, 0, h, _ => absurd h (Nat.not_lt_zero _)
  | n + 1, fuel + 1, h, hn => by
    have ih := M_val_L K τ f r n fuel (by omega) (by omega)
    rw [mM_valueAt_L3, if_neg (nI_nle (Nat.succ_pos n) (by omega)), jrd_n _ _ _ _ _ (by omega) (by decide)]
    simp only [mlt, pk_m1, ih]
    by_cases h4 : τ 4 (n + 1) = 1
    · rw [if_pos h4, jrd_n _ _ _ _ _ (by omega) (by decide)]
      by_cases h6 : τ 6 (n + 1) = f
      · rw [if_pos h6, jrd_n _ _ _ _ _ (by omega) (by decide)]
        by_cases h7 : τ 7 (n + 1) = r
        · rw [if_pos h7, if_pos ⟨h4, h6, h7⟩]
        · rw [if_neg h7, if_neg (fun z => h7 z.2.2)]
      · rw [if_neg h6, if_neg (fun z => h6 z.2.1)]
    · rw [if_neg h4, if_neg (fun z => h4 z.1)]
theorem M_val (τ : JS) (f r : Int32) (n : Nat) (hn : n ≤ 120) : mM_valueAt τ f r (nI n) = some (mvl τ f r n) := by
  have hl := mlt_le τ f r n
  unfold mM_valueAt
  rw [M_val_L _ τ f r n 999 (by omega) hn, mlt_val]
  by_cases h0 : mlt τ f r n = 0
  · rw [h0, if_pos rfl, if_pos (by decide)]
  · rw [if_neg h0, if_neg (nI_nle (by omega) (by omega)), jrd_n _ _ _ _ _ (by omega) (by decide)]
theorem M_cyc_L (τ : JS) (j : Int32) (n : Nat) (hn : n ≤ 120) : ∀ (d i fuel : Nat), i + d = n → d < fuel → mM_cycleAt_L5 τ j (nI n) fuel (nI (mcy τ j i)) (nI (i + 1)) = some (nI (mcy τ j n))
  | 0, i, 0, _, h => absurd h (Nat.not_lt_zero _)
  | 0, i, fuel + 1, hi, _ => by
    have : i = n := by omega
    subst this
    rw [mM_cycleAt_L5, if_pos (nI_lt (by omega) (by omega))]
  | d + 1, i, 0, _, h => absurd h (Nat.not_lt_zero _)
  | d + 1, i, fuel + 1, hi, h => by
    have ih := M_cyc_L τ j n hn d (i + 1) fuel (by omega) (by omega)
    have hc := mcy_le τ j i
    rw [mM_cycleAt_L5, if_neg (nI_nlt (by omega) (by omega)), jrd_n _ _ _ _ _ (by omega) (by decide)]
    rw [nI_1]
    simp only [mcy] at ih
    by_cases h5 : τ 5 (i + 1) = j
    · rw [if_pos h5] at ih
      rw [if_pos h5, jrd_n _ _ _ _ _ (by omega) (by decide)]
      by_cases h4 : τ 4 (i + 1) = 1
      · rw [if_pos h4] at ih
        rw [if_pos h4]
        by_cases h0 : mcy τ j i = 0
        · rw [if_pos h0] at ih
          rw [h0, if_pos (by decide)]
          exact ih
        · rw [if_neg h0] at ih
          rw [if_neg (nI_ne0 (by omega) (by omega))]
          exact ih
      · rw [if_neg h4] at ih
        rw [if_neg h4]
        exact ih
    · rw [if_neg h5] at ih
      rw [if_neg h5]
      exact ih
theorem M_cyc (τ : JS) (j : Int32) (n : Nat) (hn : n ≤ 120) : mM_cycleAt τ j (nI n) = some (nI (mcy τ j n)) := M_cyc_L τ j n hn n 0 999 (by omega) (by omega)
/-- how many entries of a job from i up to n -/
def mcr (τ : JS) (j : Int32) (i : Nat) : Nat → Nat
  | 0 => 0
  | d + 1 => (if τ 5 i = j then 1 else 0) + mcr τ j (i + 1) d
theorem mcr_last (τ : JS) (j : Int32) : ∀ (d i : Nat), mcr τ j i (d + 1) = mcr τ j i d + (if τ 5 (i + d) = j then 1 else 0)
  | 0, i => by simp [mcr]
  | d + 1, i => by
    have ih := mcr_last τ j d (i + 1)
    have e : i + 1 + d = i + (d + 1) := by omega
    rw [mcr, ih, e, mcr]
    omega
theorem mcr_mcn (τ : JS) (j : Int32) : ∀ n : Nat, 0 < mcy τ j n → mcr τ j (mcy τ j n) (n + 1 - mcy τ j n) = mcn τ j n
  | 0, h => by simp [mcy] at h
  | n + 1, h => by
    have ih := mcr_mcn τ j n
    have hle := mcy_le τ j n
    have h0 := mcn_mcy τ j n
    simp only [mcy] at h ⊢
    simp only [mcn]
    by_cases h5 : τ 5 (n + 1) = j
    · rw [if_pos h5] at h ⊢
      rw [if_pos h5]
      by_cases h4 : τ 4 (n + 1) = 1
      · rw [if_pos h4] at h ⊢
        rw [if_pos h4]
        by_cases hz : mcy τ j n = 0
        · rw [if_pos hz]
          have e : n + 1 + 1 - (n + 1) = 1 := by omega
          rw [e, mcr, mcr, if_pos h5, h0.mpr hz]
        · rw [if_neg hz] at h ⊢
          have e : n + 1 + 1 - mcy τ j n = (n + 1 - mcy τ j n) + 1 := by omega
          have e2 : mcy τ j n + (n + 1 - mcy τ j n) = n + 1 := by omega
          rw [e, mcr_last, e2, if_pos h5, ih (by omega)]
      · rw [if_neg h4] at h
        omega
    · rw [if_neg h5] at h ⊢
      rw [if_neg h5]
      have e : n + 1 + 1 - mcy τ j n = (n + 1 - mcy τ j n) + 1 := by omega
      have e2 : mcy τ j n + (n + 1 - mcy τ j n) = n + 1 := by omega
      rw [e, mcr_last, e2, if_neg h5, ih h]
      omega
theorem M_cnt_L (τ : JS) (j : Int32) (n c : Nat) (hl : τ 100 2 = nI n) (hn : n ≤ 120) (hc : 0 < c) (hc2 : c ≤ n) : ∀ (d i fuel a : Nat), i + d = n + 1 → 0 < i → d < fuel → a + d < 2 ^ 31 → mM_changesOf_L15 τ j (nI c) fuel (nI a) (nI i) = some (nI (a + mcr τ j i d))
  | 0, i, 0, _, _, _, h, _ => absurd h (Nat.not_lt_zero _)
  | 0, i, fuel + 1, a, hi, _, _, _ => by
    rw [mM_changesOf_L15, hl, if_pos (nI_lt (by omega) (by omega))]
    rfl
  | d + 1, i, 0, _, _, _, h, _ => absurd h (Nat.not_lt_zero _)
  | d + 1, i, fuel + 1, a, hi, h0, h, ha => by
    rw [mM_changesOf_L15, hl, if_neg (nI_nlt (by omega) (by omega)), if_neg (nI_nle hc (by omega)), jrd_n _ _ _ _ _ (by omega) (by decide), nI_1 i, mcr]
    by_cases h5 : τ 5 i = j
    · rw [if_pos h5, if_pos h5, nI_1 a, M_cnt_L τ j n c hl hn hc hc2 d (i + 1) fuel (a + 1) (by omega) (by omega) (by omega) (by omega)]
      congr 2; omega
    · rw [if_neg h5, if_neg h5, M_cnt_L τ j n c hl hn hc hc2 d (i + 1) fuel a (by omega) (by omega) (by omega) (by omega)]
      congr 2; omega
theorem M_cnt (τ : JS) (j : Int32) (n : Nat) (hl : τ 100 2 = nI n) (hn : n ≤ 120) : mM_changesOf τ j = some (nI (mcn τ j n)) := by
  unfold mM_changesOf
  rw [hl, M_cyc τ j n hn, jbn_s]
  have hle := mcy_le τ j n
  by_cases h0 : mcy τ j n = 0
  · rw [h0, (mcn_mcy τ j n).mpr h0, mM_changesOf_L15, hl]
    by_cases hz : nI n < nI 0
    · rw [if_pos hz]; rfl
    · rw [if_neg hz, if_pos (by decide)]; rfl
  · have := M_cnt_L τ j n (mcy τ j n) hl hn (by omega) hle (n + 1 - mcy τ j n) (mcy τ j n) 999 0 (by omega) (by omega) (by omega) (by omega)
    rw [l0, this, Nat.zero_add, mcr_mcn τ j n (by omega)]
