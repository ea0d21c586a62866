/-! a file brought to a number -/
def mcu (τ : JS) (f : Int32) (m n : Nat) : Nat → Nat
  | 0 => 0
  | r + 1 => mcu τ f m n r + (if mvl τ f (nI r) n = mvl τ f (nI r) m then 0 else 1)
theorem mcu_le (τ : JS) (f : Int32) (m n : Nat) : ∀ r, mcu τ f m n r ≤ r
  | 0 => Nat.le_refl _
  | r + 1 => by
    have := mcu_le τ f m n r
    rw [mcu]
    split <;> omega
theorem mcu_mono (τ : JS) (f : Int32) (m n : Nat) : ∀ e r, mcu τ f m n r ≤ mcu τ f m n (r + e)
  | 0, _ => Nat.le_refl _
  | e + 1, r => by
    have := mcu_mono τ f m n e r
    rw [show r + (e + 1) = (r + e) + 1 by omega, mcu]
    omega
theorem H_cu_L (σ τ : JS) (f m n z : Nat) (hf : f < 3) (hz : z ≤ 8) (h26 : σ 26 f = nI z) (h15 : ∀ r : Nat, r < 8 → σ 15 (8 * f + r) = mvl τ (nI f) (nI r) n) (h29 : ∀ r : Nat, r < z → σ 29 r = mvl τ (nI f) (nI r) m) : ∀ (e r fuel : Nat), r + e = z → e < fuel → mH_countUnwanted_L4 σ (nI f) fuel (nI (mcu τ (nI f) m n r)) (nI r) = some (nI (mcu τ (nI f) m n z))
  | e, r, 0, _, h => absurd h (Nat.not_lt_zero _)
  | 0, r, fuel + 1, hr, _ => by
    have e : r = z := by omega
    subst e
    rw [mH_countUnwanted_L4, jrd_n _ _ _ _ _ hf (by decide), h26, if_pos (nI_le (by omega) (by omega))]
  | e + 1, r, fuel + 1, hr, h => by
    have ih := H_cu_L σ τ f m n z hf hz h26 h15 h29 e (r + 1) fuel (by omega) (by omega)
    unfold mH_countUnwanted_L4 mH_cellOf
    rw [jrd_n _ _ _ _ _ hf (by decide), h26, if_neg (nI_ge (by omega) (by omega)), jbn_s, l8, pk_mul, nI_add, Nat.mul_comm f 8, jrd_n _ _ _ _ _ (by omega) (by decide), jrd_n _ _ _ _ _ (by omega) (by decide), h15 r (by omega), h29 r (by omega), nI_1, nI_1]
    rw [mcu] at ih
    by_cases hv : mvl τ (nI f) (nI r) n = mvl τ (nI f) (nI r) m
    · rw [if_pos hv] at ih
      rw [if_pos hv]; exact ih
    · rw [if_neg hv] at ih
      rw [if_neg hv]; exact ih
theorem M_cu_L (K : Int32 → Int32 → Option (Int32 × JS)) (τ : JS) (f m n z : Nat) (x3 : Int32) (hf : f < 3) (hz : z ≤ 8) (hm : m ≤ 120) (hn : n ≤ 120) (h1 : τ 1 f = nI z) : ∀ (e r fuel : Nat), r + e = z → e < fuel → mM_become_L12 K τ (nI f) (nI m) x3 (nI n) fuel (nI (mcu τ (nI f) m n r)) (nI r) = K (nI (mcu τ (nI f) m n z)) (nI z)
  | e, r, 0, _, h => absurd h (Nat.not_lt_zero _)
  | 0, r, fuel + 1, hr, _ => by
    have e : r = z := by omega
    subst e
    rw [mM_become_L12, jrd_n _ _ _ _ _ hf (by decide), h1, if_pos (nI_le (by omega) (by omega))]
  | e + 1, r, fuel + 1, hr, h => by
    have ih := M_cu_L K τ f m n z x3 hf hz hm hn h1 e (r + 1) fuel (by omega) (by omega)
    rw [mM_become_L12, jrd_n _ _ _ _ _ hf (by decide), h1, if_neg (nI_ge (by omega) (by omega)), M_val _ _ _ m hm, jbn_s, M_val _ _ _ n hn, jbn_s, nI_1, nI_1]
    rw [mcu] at ih
    by_cases hv : mvl τ (nI f) (nI r) n = mvl τ (nI f) (nI r) m
    · rw [if_pos hv] at ih
      rw [if_pos hv.symm]; exact ih
    · rw [if_neg hv] at ih
      rw [if_neg (fun q => hv q.symm)]; exact ih
def tB (σ τ : JS) (n c d f m r : Nat) (σ1 τ1 : JS) (n1 w1 : Nat) : Prop := tX σ1 τ1 n1 c d w1 ∧ n ≤ n1 ∧ (∀ a, 18 < a → a ≠ 100 → σ1 a = σ a) ∧ (∀ q, q ≠ 0 → q ≠ 2 → σ1 100 q = σ 100 q) ∧ (∀ a, (a < 4 ∨ 11 < a) → a ≠ 100 → τ1 a = τ a) ∧ (∀ q, q ≠ 2 → q ≠ 6 → τ1 100 q = τ 100 q) ∧ jsame τ τ1 n ∧ (∀ i : Int32, i ≠ nI 3 → mcy τ1 i n1 = mcy τ i n ∧ mcn τ1 i n1 = mcn τ i n ∧ ∀ f : Int32, mce τ1 i (mof τ1 f) n1 = mce τ i (mof τ f) n) ∧ (∀ g r' : Nat, g < 3 → r' < 8 → mvl τ1 (nI g) (nI r') n1 = if g = f ∧ r' < r then mvl τ (nI f) (nI r') m else mvl τ (nI g) (nI r') n)
theorem bring_L {σ τ : JS} {n c d f m z : Nat} (x2 k : Int32) (hc : c ≤ 3) (hd : 8 * d ≤ n) (hf : f < c) (hz : z ≤ 8) (hm : m ≤ n) (h26 : σ 26 f = nI z) (h1 : τ 1 f = nI z) (h29 : ∀ r : Nat, r < z → σ 29 r = mvl τ (nI f) (nI r) m) (hroom : n + mcu τ (nI f) m n z ≤ 120) : ∀ (e r fuel fuel' : Nat) (σ1 τ1 : JS) (w1 : Nat), r + e = z → e < fuel → e < fuel' → tB σ τ n c d f m r σ1 τ1 (n + mcu τ (nI f) m n r) w1 → ∃ (σ2 τ2 : JS) (w2 : Nat), (∀ K, mH_bringToWanted_L28 K (nI f) x2 k fuel σ1 (nI r) = K σ2 (nI z)) ∧ (∀ K x3, mM_become_L90 K (nI f) (nI m) x3 (nI n) k fuel' τ1 (nI r) = K τ2 (nI z)) ∧ tB σ τ n c d f m z σ2 τ2 (n + mcu τ (nI f) m n z) w2
  | e, r, 0, _, _, _, _, _, h, _, _ => absurd h (Nat.not_lt_zero _)
  | e, r, _ + 1, 0, _, _, _, _, _, h, _ => absurd h (Nat.not_lt_zero _)
  | 0, r, fuel + 1, fuel' + 1, σ1, τ1, w1, hr, _, _, hB => by
    have e : r = z := by omega
    subst e
    refine ⟨σ1, τ1, w1, fun K => ?_, fun K x3 => ?_, hB⟩
    · rw [mH_bringToWanted_L28, jrd_n _ _ _ _ _ (by omega) (by decide), hB.2.2.1 26 (by decide) (by decide), h26, if_pos (nI_le (by omega) (by omega))]
    · rw [mM_become_L90, jrd_n _ _ _ _ _ (by omega) (by decide), hB.2.2.2.2.1 1 (by decide) (by decide), h1, if_pos (nI_le (by omega) (by omega))]
  | e + 1, r, fuel + 1, fuel' + 1, σ1, τ1, w1, hr, h, h', hB => by
    have hB2 := hB
    obtain ⟨X, u1, u2, u3, u4, u5, u6, u7, u8⟩ := hB2
    have hmo := mcu_mono τ (nI f) m n e (r + 1)
    rw [show r + 1 + e = z by omega, mcu] at hmo
    have v15 : σ1 15 (8 * f + r) = mvl τ (nI f) (nI r) n := by
      rw [X.1.2.2.2 f r (by omega) (by omega), u8 f r (by omega) (by omega), if_neg (by omega)]
    have sH : ∀ K, mH_bringToWanted_L28 K (nI f) x2 k (fuel + 1) σ1 (nI r) = if mvl τ (nI f) (nI r) n = mvl τ (nI f) (nI r) m then mH_bringToWanted_L28 K (nI f) x2 k fuel σ1 (nI (r + 1)) else jbn (mH_writeChange σ1 (nI 3) (nI (8 * f + r)) (mvl τ (nI f) (nI r) m)) fun q19 => mH_bringToWanted_L28 K (nI f) x2 k fuel q19 (nI (r + 1)) := fun K => by
      rw [mH_bringToWanted_L28, jrd_n _ _ _ _ _ (by omega) (by decide), u2 26 (by decide) (by decide), h26, if_neg (nI_ge (by omega) (by omega))]
      unfold mH_cellOf
      rw [jbn_s, l8, pk_mul, nI_add, Nat.mul_comm f 8, jrd_n _ _ _ _ _ (by omega) (by decide), jrd_n _ _ _ _ _ (by omega) (by decide), v15, u2 29 (by decide) (by decide), h29 r (by omega), jrd_n _ _ _ _ _ (by omega) (by decide), u2 29 (by decide) (by decide), h29 r (by omega), nI_1]
      rfl
    have sM : ∀ K x3, mM_become_L90 K (nI f) (nI m) x3 (nI n) k (fuel' + 1) τ1 (nI r) = if mvl τ (nI f) (nI r) n = mvl τ (nI f) (nI r) m then mM_become_L90 K (nI f) (nI m) x3 (nI n) k fuel' τ1 (nI (r + 1)) else jbn (mM_put τ1 (nI 3) (nI f) (nI r) (mvl τ (nI f) (nI r) m)) fun q17 => mM_become_L90 K (nI f) (nI m) x3 (nI n) k fuel' q17 (nI (r + 1)) := fun K x3 => by
      rw [mM_become_L90, jrd_n _ _ _ _ _ (by omega) (by decide), u4 1 (by decide) (by decide), h1, if_neg (nI_ge (by omega) (by omega)), M_val _ _ _ m (by omega), jbn_s, M_val _ _ _ n (by omega), jbn_s, mvl_same _ _ (u6.lt hm), mvl_same _ _ u6, nI_1]
      by_cases hv : mvl τ (nI f) (nI r) n = mvl τ (nI f) (nI r) m
      · rw [if_pos hv, if_pos hv.symm]
      · rw [if_neg hv, if_neg (fun q => hv q.symm)]; rfl
    by_cases hv : mvl τ (nI f) (nI r) n = mvl τ (nI f) (nI r) m
    · have hcu : mcu τ (nI f) m n (r + 1) = mcu τ (nI f) m n r := by rw [mcu, if_pos hv]; rfl
      have hB3 : tB σ τ n c d f m (r + 1) σ1 τ1 (n + mcu τ (nI f) m n (r + 1)) w1 := by
        rw [hcu]
        refine ⟨X, u1, u2, u3, u4, u5, u6, u7, fun g r' hg hr' => ?_⟩
        rw [u8 g r' hg hr']
        by_cases h1 : g = f ∧ r' < r
        · rw [if_pos h1, if_pos ⟨h1.1, by omega⟩]
        · rw [if_neg h1]
          by_cases h2 : g = f ∧ r' < r + 1
          · rw [if_pos h2, h2.1, show r' = r by omega]; exact hv
          · rw [if_neg h2]
      obtain ⟨σ2, τ2, w2, k1, k2, k3⟩ := bring_L x2 k hc hd hf hz hm h26 h1 h29 hroom e (r + 1) fuel fuel' σ1 τ1 w1 (by omega) (by omega) (by omega) hB3
      exact ⟨σ2, τ2, w2, fun K => by rw [sH, if_pos hv, k1], fun K x3 => by rw [sM, if_pos hv, k2], k3⟩
    · have hcu : mcu τ (nI f) m n (r + 1) = mcu τ (nI f) m n r + 1 := by rw [mcu, if_neg hv]
      rw [if_neg hv] at hmo
      obtain ⟨σ2, τ2, w2, e1, e2, X2, a1, a2, a3, a4, a5, a6, a7, a8, a9, a10, a11⟩ := t_put (j := 3) (r := r) (mvl τ (nI f) (nI r) m) hc (by omega) (by omega) X (by omega) hf (by omega)
      have hB3 : tB σ τ n c d f m (r + 1) σ2 τ2 (n + mcu τ (nI f) m n (r + 1)) w2 := by
        rw [hcu, ← Nat.add_assoc]
        refine ⟨X2, by omega, fun a g1 g2 => ?_, fun q g1 g2 => by rw [a2 q g1 g2, u3 q g1 g2], fun a g1 g2 => by rw [a4 a g1 g2, u4 a g1 g2], fun q g1 g2 => by rw [a5 q g1 g2, u5 q g1 g2], fun k' k1 k2 => ?_, fun i hi => ?_, fun g r' hg hr' => ?_⟩
        · by_cases h27 : a = 27
          · subst h27
            rw [← u2 27 (by decide) (by decide)]
            funext x
            rw [a3, if_neg (fun z => z.1 rfl)]
          · rw [a1 a g1 h27 g2, u2 a g1 g2]
        · obtain ⟨z4, z5, z6, z7, z8, z9⟩ := a6 k' k1 (by omega)
          obtain ⟨y4, y5, y6, y7, y8, y9⟩ := u6 k' k1 k2
          rw [z4, z5, z6, z7, z8, z9]
          exact ⟨y4, y5, y6, y7, y8, y9⟩
        · have hne : ¬ τ2 5 (n + mcu τ (nI f) m n r + 1) = i := fun z => hi (by rw [← z, a8])
          obtain ⟨y1, y2, y3⟩ := u7 i hi
          exact ⟨by rw [mcy_new a6, if_neg hne, y1], by rw [mcn_new a6, if_neg hne, y2], fun f' => by rw [mce_new a6, if_neg hne, y3]⟩
        · rw [mvl_new a6, a7, a9, a10, a11, u8 g r' hg hr']
          by_cases h1 : g = f ∧ r' = r
          · rw [if_pos ⟨rfl, by rw [h1.1], by rw [h1.2]⟩, if_pos ⟨h1.1, by omega⟩, h1.2]
          · rw [if_neg (fun z => h1 ⟨(nI_inj (by omega) (by omega) z.2.1).symm, (nI_inj (by omega) (by omega) z.2.2).symm⟩)]
            by_cases h2 : g = f ∧ r' < r
            · rw [if_pos h2, if_pos ⟨h2.1, by omega⟩]
            · rw [if_neg h2, if_neg (fun z => by
                by_cases hrr : r' = r
                · exact h1 ⟨z.1, hrr⟩
                · exact h2 ⟨z.1, by omega⟩)]
      obtain ⟨σ3, τ3, w3, k1, k2, k3⟩ := bring_L x2 k hc hd hf hz hm h26 h1 h29 hroom e (r + 1) fuel fuel' σ2 τ2 w2 (by omega) (by omega) (by omega) hB3
      exact ⟨σ3, τ3, w3, fun K => by rw [sH, if_neg hv, e1, jbn_s, k1], fun K x3 => by rw [sM, if_neg hv, e2, jbn_s, k2], k3⟩
