/-! the disk and what waits -/
def fw (σ : JS) (x : Nat) : Nat → Int32 → Int32
  | 0, v => v
  | m + 1, v => if σ 17 m = nI x then σ 18 m else fw σ x m v
def fwr (σ : JS) (q : Nat) : Nat → Int32 := fun x => if x < 24 then fw σ x q (σ 16 x) else σ 16 x
theorem fwr_0 (σ : JS) : jwA σ 16 (fwr σ 0) = σ := by
  funext a b
  rw [jwA_at]
  by_cases h : a = 16
  · rw [if_pos h, h]; unfold fwr fw; rw [ite_self]
  · rw [if_neg h]
theorem fwr_step (σ : JS) (q y : Nat) (hy : y < 24) (h : σ 17 q = nI y) : jw2 (jwA σ 16 (fwr σ q)) 16 y (σ 18 q) = jwA σ 16 (fwr σ (q + 1)) := by
  funext a b
  rw [jw2_at, jwA_at, jwA_at]
  by_cases ha : a = 16
  · rw [if_pos ha, if_pos ha, if_pos ha]
    unfold fwr
    rw [fw, h]
    by_cases hb : b = y
    · rw [if_pos hb, if_pos (by omega), if_pos (by rw [hb])]
    · rw [if_neg hb]
      by_cases hb2 : b < 24
      · rw [if_pos hb2, if_pos hb2, if_neg (fun z => hb (nI_inj (by omega) (by omega) z).symm)]
      · rw [if_neg hb2, if_neg hb2]
  · rw [if_neg ha, if_neg ha, if_neg ha]
def hld (σ : JS) (q w : Nat) : JS := jwA (jwA (jw2 (jwA σ 16 (fwr σ q)) 100 2 (nI (w - q))) 17 (va_cpy (σ 17) (σ 17) q 0 (w - q))) 18 (va_cpy (σ 18) (σ 18) q 0 (w - q))
theorem H_land_L (K : JS → Int32 → Option JS) (σ : JS) (q w : Nat) (hq : q ≤ w) (hw : w ≤ 24) (h17 : ∀ i, i < w → ∃ y, y < 24 ∧ σ 17 i = nI y) : ∀ (d i fuel : Nat), i + d = q → d < fuel → mS_landOldest_L2 K (nI q) fuel (jwA σ 16 (fwr σ i)) (nI i) = K (jwA σ 16 (fwr σ q)) (nI q)
  | 0, i, 0, _, h => absurd h (Nat.not_lt_zero _)
  | 0, i, fuel + 1, hi, _ => by
    have e : i = q := by omega
    subst e
    rw [mS_landOldest_L2, if_pos (nI_le (by omega) (by omega))]
  | d + 1, i, 0, _, h => absurd h (Nat.not_lt_zero _)
  | d + 1, i, fuel + 1, hi, h => by
    obtain ⟨y, hy, hy2⟩ := h17 i (by omega)
    rw [mS_landOldest_L2, if_neg (nI_ge (by omega) (by omega)), jrd_n _ _ _ _ _ (by omega) (by decide), jrd_n _ _ _ _ _ (by omega) (by decide)]
    rw [show jwA σ 16 (fwr σ i) 17 i = nI y from hy2, show jwA σ 16 (fwr σ i) 18 i = σ 18 i from rfl, jwr_n _ _ _ _ _ _ hy (by decide), fwr_step σ i y hy hy2, nI_1]
    exact H_land_L K σ q w hq hw h17 d (i + 1) fuel (by omega) (by omega)
theorem H_land (σ : JS) (q w : Nat) (h2 : σ 100 2 = nI w) (hq : q ≤ w) (hw : w ≤ 24) (h17 : ∀ i, i < w → ∃ y, y < 24 ∧ σ 17 i = nI y) : mS_landOldest σ (nI q) = some (hld σ q w) := by
  unfold mS_landOldest
  have e := H_land_L (fun σ10 z11 => jst (jw2 σ10 100 2 ((σ10 100 2) - nI q)) fun σ12 => jcp σ12 17 24 17 24 (nI q) (0 : Int32) (σ12 100 2) fun σ14 => jcp σ14 18 24 18 24 (nI q) (0 : Int32) (σ14 100 2) fun σ21 => some σ21) σ q w hq hw h17 q 0 999 (by omega) (by omega)
  rw [fwr_0, nI_0] at e
  rw [e, jst_n, show jwA σ 16 (fwr σ q) 100 2 = nI w from h2, pk_sub hq]
  have e0 : jw2 (jwA σ 16 (fwr σ q)) 100 2 (nI (w - q)) 100 2 = nI (w - q) := by simp [jw2_at]
  rw [e0, l0, jcp_n _ _ _ _ _ _ _ _ _ (by omega) (by omega) (by decide) (by decide)]
  rw [show jwA (jw2 (jwA σ 16 (fwr σ q)) 100 2 (nI (w - q))) 17 (va_cpy (jw2 (jwA σ 16 (fwr σ q)) 100 2 (nI (w - q)) 17) (jw2 (jwA σ 16 (fwr σ q)) 100 2 (nI (w - q)) 17) q 0 (w - q)) 100 2 = nI (w - q) from e0, jcp_n _ _ _ _ _ _ _ _ _ (by omega) (by omega) (by decide) (by decide)]
  rfl
theorem hld_16 (σ : JS) (q w x : Nat) (hx : x < 24) : hld σ q w 16 x = fw σ x q (σ 16 x) := by
  show fwr σ q x = _
  unfold fwr
  rw [if_pos hx]
theorem hld_17 (σ : JS) (q w i : Nat) (h : i < w - q) : hld σ q w 17 i = σ 17 (i + q) := by
  show va_cpy (σ 17) (σ 17) q 0 (w - q) i = _
  rw [pk_cpy_in (by omega) (by omega)]
  congr 1; omega
theorem hld_18 (σ : JS) (q w i : Nat) (h : i < w - q) : hld σ q w 18 i = σ 18 (i + q) := by
  show va_cpy (σ 18) (σ 18) q 0 (w - q) i = _
  rw [pk_cpy_in (by omega) (by omega)]
  congr 1; omega
theorem hld_row (σ : JS) (q w a : Nat) (h : a ≠ 16) (h2 : a ≠ 17) (h3 : a ≠ 18) (h4 : a ≠ 100) : hld σ q w a = σ a := by
  unfold hld jwA jw2
  rw [if_neg h3, if_neg h2, if_neg h4]
  exact if_neg h
theorem hld_100 (σ : JS) (q w b : Nat) : hld σ q w 100 b = if b = 2 then nI (w - q) else σ 100 b := by
  unfold hld
  simp only [jwA_at, jw2_at]
  simp
theorem fw_hld (σ : JS) (q w x : Nat) (v : Int32) : ∀ m, m ≤ w - q → fw (hld σ q w) x m (fw σ x q v) = fw σ x (q + m) v
  | 0, _ => rfl
  | m + 1, h => by
    rw [fw, hld_17 σ q w m (by omega), hld_18 σ q w m (by omega), fw_hld σ q w x v m (by omega), Nat.add_comm m q]
    rfl
/-- the model's landing -/
theorem M_land_L (τ : JS) (w : Nat) (h6 : τ 100 6 = nI w) (hw : w < 24) : ∀ (d i fuel : Nat), i + d = w → d < fuel → mM_landFirst_L46 fuel (jwA τ 11 (va_cpy (τ 11) (τ 11) 1 0 i)) (nI i) = some (jwA τ 11 (va_cpy (τ 11) (τ 11) 1 0 w))
  | 0, i, 0, _, h => absurd h (Nat.not_lt_zero _)
  | 0, i, fuel + 1, hi, _ => by
    have e : i = w := by omega
    subst e
    rw [mM_landFirst_L46, show jwA τ 11 (va_cpy (τ 11) (τ 11) 1 0 i) 100 6 = nI i from h6, if_pos (nI_le (by omega) (by omega))]
  | d + 1, i, 0, _, h => absurd h (Nat.not_lt_zero _)
  | d + 1, i, fuel + 1, hi, h => by
    rw [mM_landFirst_L46, show jwA τ 11 (va_cpy (τ 11) (τ 11) 1 0 i) 100 6 = nI w from h6, if_neg (nI_ge (by omega) (by omega)), nI_1, jrd_n _ _ _ _ _ (by omega) (by decide), jwr_n _ _ _ _ _ _ (by omega) (by decide)]
    have e : jw2 (jwA τ 11 (va_cpy (τ 11) (τ 11) 1 0 i)) 11 i (jwA τ 11 (va_cpy (τ 11) (τ 11) 1 0 i) 11 (i + 1)) = jwA τ 11 (va_cpy (τ 11) (τ 11) 1 0 (i + 1)) := by
      funext a b
      rw [jw2_at, jwA_at, jwA_at, jwA_at]
      by_cases ha : a = 11
      · rw [if_pos ha, if_pos ha, if_pos ha, if_pos rfl, pk_cpy_out (j := i + 1) (by omega)]
        by_cases hb : b = i
        · rw [if_pos hb, hb, pk_cpy_in (by omega) (by omega)]
          congr 1; omega
        · rw [if_neg hb]
          by_cases hb2 : b < i
          · rw [pk_cpy_in (by omega) (by omega), pk_cpy_in (by omega) (by omega)]
          · rw [pk_cpy_out (by omega), pk_cpy_out (by omega)]
      · rw [if_neg ha, if_neg ha, if_neg ha]
    rw [e]
    exact M_land_L τ w h6 hw d (i + 1) fuel (by omega) (by omega)
theorem cpy_0 (τ : JS) : jwA τ 11 (va_cpy (τ 11) (τ 11) 1 0 0) = τ := by
  funext a b
  rw [jwA_at]
  by_cases h : a = 11
  · rw [if_pos h, h, pk_cpy_out (by omega)]
  · rw [if_neg h]
theorem M_land1 (τ : JS) (w k f r : Nat) (h6 : τ 100 6 = nI (w + 1)) (hw : w < 24) (h11 : τ 11 0 = nI k) (hk : k ≤ 120) (e6 : τ 6 k = nI f) (e7 : τ 7 k = nI r) (hf : f < 3) (hr : r < 8) : mM_landFirst τ = some (jwA (jw2 (jw2 τ 10 (8 * f + r) (τ 9 k)) 100 6 (nI w)) 11 (va_cpy (τ 11) (τ 11) 1 0 w)) := by
  unfold mM_landFirst
  rw [l0, jrd_n _ _ _ _ _ (by omega) (by decide), h11, jrd_n _ _ _ _ _ (by omega) (by decide), jrd_n _ _ _ _ _ (by omega) (by decide), jrd_n _ _ _ _ _ (by omega) (by decide), e6, e7, l8, pk_mul, nI_add, jwr_n _ _ _ _ _ _ (by omega) (by decide), jst_n]
  rw [show jw2 τ 10 (8 * f + r) (τ 9 k) 100 6 = nI (w + 1) from h6, nI_pred]
  have e := M_land_L (jw2 (jw2 τ 10 (8 * f + r) (τ 9 k)) 100 6 (nI w)) w (by simp [jw2_at]) hw w 0 999 (by omega) (by omega)
  rw [cpy_0] at e
  exact e
def mfr (τ τ' : JS) : Prop := (∀ a, a ≠ 10 → a ≠ 11 → a ≠ 100 → τ' a = τ a) ∧ ∀ b, b ≠ 6 → τ' 100 b = τ 100 b
def tW (σ τ : JS) (n d i : Nat) : Prop := ∃ k f r : Nat, τ 11 i = nI k ∧ 8 * d < k ∧ k ≤ n ∧ τ 4 k = 1 ∧ f < 3 ∧ r < 8 ∧ τ 6 k = nI f ∧ τ 7 k = nI r ∧ σ 17 i = nI (8 * f + r) ∧ σ 18 i = τ 9 k
def tD (σ τ : JS) (n d w : Nat) : Prop := σ 100 2 = nI w ∧ τ 100 6 = nI w ∧ w ≤ 24 ∧ (∀ x, x < 24 → σ 16 x = τ 10 x) ∧ ∀ i, i < w → tW σ τ n d i
def tP (σ τ : JS) (n d : Nat) : Prop := ∀ f r : Nat, f < 3 → r < 8 → mlt τ (nI f) (nI r) n ≤ 8 * d → σ 16 (8 * f + r) = mvl τ (nI f) (nI r) n
def tQ (σ τ : JS) (n w : Nat) : Prop := ∀ f r : Nat, f < 3 → r < 8 → fw σ (8 * f + r) w (σ 16 (8 * f + r)) = mvl τ (nI f) (nI r) n
def mLd (σ τ τ' : JS) (w q : Nat) : Prop := mfr τ τ' ∧ τ' 100 6 = nI (w - q) ∧ (∀ i, i < w - q → τ' 11 i = τ 11 (i + q)) ∧ ∀ x, x < 24 → τ' 10 x = fw σ x q (σ 16 x)
theorem tD_y {σ τ : JS} {n d w : Nat} (hD : tD σ τ n d w) : ∀ i, i < w → ∃ y, y < 24 ∧ σ 17 i = nI y := fun i hi => by
  obtain ⟨k, f, r, a1, a2, a3, a4, a5, a6, a7, a8, a9, a10⟩ := hD.2.2.2.2 i hi
  exact ⟨8 * f + r, by omega, a9⟩
theorem mLd_0 {σ τ : JS} {n d w : Nat} (hD : tD σ τ n d w) : mLd σ τ τ w 0 := ⟨⟨fun _ _ _ _ => rfl, fun _ _ => rfl⟩, hD.2.1, fun _ _ => rfl, fun x hx => (hD.2.2.2.1 x hx).symm⟩
theorem mLd_step {σ τ τ' : JS} {n d w q : Nat} (hn : n ≤ 120) (hD : tD σ τ n d w) (hq : q < w) (h : mLd σ τ τ' w q) : ∃ τ'', mM_landFirst τ' = some τ'' ∧ mLd σ τ τ'' w (q + 1) := by
  obtain ⟨⟨f1, f2⟩, h6, h11, h10⟩ := h
  obtain ⟨k, f, r, a1, a2, a3, a4, a5, a6, a7, a8, a9, a10⟩ := hD.2.2.2.2 q hq
  have hw := hD.2.2.1
  have e6 : τ' 6 k = nI f := by rw [f1 6 (by decide) (by decide) (by decide)]; exact a7
  have e7 : τ' 7 k = nI r := by rw [f1 7 (by decide) (by decide) (by decide)]; exact a8
  have e11 : τ' 11 0 = nI k := by rw [h11 0 (by omega), Nat.zero_add]; exact a1
  refine ⟨_, M_land1 τ' (w - (q + 1)) k f r (by rw [h6]; congr 1; omega) (by omega) e11 (by omega) e6 e7 a5 a6, ⟨fun a g1 g2 g3 => ?_, fun b g => ?_⟩, ?_, fun i hi => ?_, fun x hx => ?_⟩
  · rw [← f1 a g1 g2 g3]
    unfold jwA jw2
    rw [if_neg g2, if_neg g3, if_neg g1]
  · rw [jwA_at, if_neg (by decide), jw2_at, if_pos rfl, if_neg g, ← f2 b g]
    rfl
  · rw [jwA_at, if_neg (by decide), jw2_at, if_pos rfl, if_pos rfl]
  · rw [jwA_at, if_pos rfl, pk_cpy_in (by omega) (by omega), h11 _ (by omega)]
    congr 1; omega
  · rw [jwA_at, if_neg (by decide), jw2_at, if_neg (by decide), jw2_at, if_pos rfl, fw, a9, f1 9 (by decide) (by decide) (by decide), a10]
    by_cases hz : x = 8 * f + r
    · rw [if_pos hz, if_pos (by rw [hz])]
    · rw [if_neg hz, if_neg (fun z => hz (nI_inj (by omega) (by omega) z).symm), h10 x hx]
theorem mlt_ge (τ : JS) (f r : Int32) : ∀ n k, k ≤ n → τ 4 k = 1 → τ 6 k = f → τ 7 k = r → k ≤ mlt τ f r n
  | 0, k, h, _, _, _ => by have : k = 0 := by omega
                           subst this; exact Nat.zero_le _
  | n + 1, k, h, h4, h6, h7 => by
    rw [mlt]
    by_cases hk : k = n + 1
    · subst hk
      rw [if_pos ⟨h4, h6, h7⟩]
      exact Nat.le_refl _
    · have := mlt_ge τ f r n k (by omega) h4 h6 h7
      split <;> omega
theorem mlt_same {τ τ' : JS} (f r : Int32) : ∀ {n : Nat}, jsame τ τ' n → mlt τ' f r n = mlt τ f r n
  | 0, _ => rfl
  | n + 1, h => by
    obtain ⟨h4, h5, h6, h7, h8, h9⟩ := h (n + 1) (by omega) (by omega)
    simp only [mlt, h4, h6, h7, mlt_same f r (h.lt (Nat.le_succ n))]
theorem mfr_same {τ τ' : JS} (h : mfr τ τ') (n : Nat) : jsame τ τ' n := fun k _ _ => by
  rw [h.1 4 (by decide) (by decide) (by decide), h.1 5 (by decide) (by decide) (by decide), h.1 6 (by decide) (by decide) (by decide), h.1 7 (by decide) (by decide) (by decide), h.1 8 (by decide) (by decide) (by decide), h.1 9 (by decide) (by decide) (by decide)]
  exact ⟨rfl, rfl, rfl, rfl, rfl, rfl⟩
/-- a cell whose last change is dropped is not written by landing -/
theorem fw_old {σ τ : JS} {n d w : Nat} (hD : tD σ τ n d w) (f r : Nat) (hf : f < 3) (hr : r < 8) (h : mlt τ (nI f) (nI r) n ≤ 8 * d) (v : Int32) : ∀ q, q ≤ w → fw σ (8 * f + r) q v = v
  | 0, _ => rfl
  | q + 1, hq => by
    obtain ⟨k, f', r', a1, a2, a3, a4, a5, a6, a7, a8, a9, a10⟩ := hD.2.2.2.2 q (by omega)
    rw [fw, if_neg, fw_old hD f r hf hr h v q (by omega)]
    intro z
    rw [a9] at z
    have z2 := nI_inj (by omega) (by omega) z
    have e1 : f' = f := by omega
    have e2 : r' = r := by omega
    subst e1; subst e2
    have := mlt_ge τ (nI f') (nI r') n k a3 a4 a7 a8
    omega
theorem tD_land {σ τ τ' : JS} {n d w q : Nat} (hD : tD σ τ n d w) (hq : q ≤ w) (h : mLd σ τ τ' w q) : tD (hld σ q w) τ' n d (w - q) := by
  obtain ⟨⟨f1, f2⟩, h6, h11, h10⟩ := h
  obtain ⟨b1, b2, b3, b4, b5⟩ := hD
  refine ⟨by rw [hld_100, if_pos rfl], h6, by omega, fun x hx => by rw [hld_16 σ q w x hx, h10 x hx], fun i hi => ?_⟩
  obtain ⟨k, f, r, a1, a2, a3, a4, a5, a6, a7, a8, a9, a10⟩ := b5 (i + q) (by omega)
  refine ⟨k, f, r, by rw [h11 i hi]; exact a1, a2, a3, ?_, a5, a6, ?_, ?_, by rw [hld_17 σ q w i hi]; exact a9, ?_⟩
  · rw [f1 4 (by decide) (by decide) (by decide)]; exact a4
  · rw [f1 6 (by decide) (by decide) (by decide)]; exact a7
  · rw [f1 7 (by decide) (by decide) (by decide)]; exact a8
  · rw [hld_18 σ q w i hi, f1 9 (by decide) (by decide) (by decide)]; exact a10
theorem tP_land {σ τ τ' : JS} {n d w q : Nat} (hD : tD σ τ n d w) (hq : q ≤ w) (h : mfr τ τ') (hP : tP σ τ n d) : tP (hld σ q w) τ' n d := fun f r hf hr hm => by
  rw [mlt_same _ _ (mfr_same h n)] at hm
  rw [hld_16 σ q w _ (by omega), fw_old hD f r hf hr hm _ q hq, mvl_same _ _ (mfr_same h n)]
  exact hP f r hf hr hm
theorem tQ_land {σ τ τ' : JS} {n w q : Nat} (hq : q ≤ w) (h : mfr τ τ') (hQ : tQ σ τ n w) : tQ (hld σ q w) τ' n (w - q) := fun f r hf hr => by
  rw [hld_16 σ q w _ (by omega), fw_hld σ q w _ _ (w - q) (by omega), mvl_same _ _ (mfr_same h n), show q + (w - q) = w by omega]
  exact hQ f r hf hr
