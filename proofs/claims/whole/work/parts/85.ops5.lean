theorem tI_land {σ τ τ' : JS} {n c d w l a q : Nat} (h : tI σ τ n c d w l a) (hu : σ 100 8 = 1) (hv : τ 100 5 = 0) (hq : q ≤ w) (hL : mLd σ τ τ' w q) : tI (hld σ q w) τ' n c d (w - q) l a := by
  have hX := tI_X h hu
  obtain ⟨hA, hD, hP, hQ⟩ := hX
  obtain ⟨f1, f2⟩ := hL.1
  have hs := mfr_same hL.1 n
  have hR := h.2.2.2.2.2.1
  have hF := h.2.2.2.2.1
  refine tI_step h hu hv ⟨tA_fr (fun a g1 g2 => hld_row _ _ _ _ (by omega) (by omega) (by omega) (by omega)) (by rw [hld_100, if_neg (by decide)]) (fun a g1 g2 => f1 a (by omega) (by omega) (by omega)) (f2 2 (by decide)) hA, tD_land hD hq hL, tP_land hD hq hL.1 hP, tQ_land hq hL.1 hQ⟩ (Nat.le_refl _) hs (fun a g1 g2 => hld_row _ _ _ _ (by omega) (by omega) (by omega) (by omega)) (fun q g0 g2 => by rw [hld_100, if_neg g2]) (fun a g1 g2 => f1 a (by omega) (by omega) (by omega)) (fun q _ _ g => f2 q g) ?_ ?_
  · exact tF_fr (tR_n hR).1 (fun a g1 g2 => hld_row _ _ _ _ (by omega) (by omega) (by omega) (by omega)) (by rw [hld_100, if_neg (by decide)]) (fun a g1 g2 => f1 a (by omega) (by omega) (by omega)) (f2 1 (by decide)) hs (Nat.le_refl _) (fun f _ _ hm => ⟨by rw [mob_same _ hs]; exact hm, fun r _ => mvl_same _ _ hs⟩) hF
  · exact tR_fr (by rw [hld_100, if_neg (by decide)]) (f2 3 (by decide)) hs hR
theorem tI_down {σ τ : JS} {n c d w l a : Nat} (h : tI σ τ n c d w l a) : tI (jw2 (jw2 σ 100 8 0) 100 2 0) (jw2 (jw2 τ 100 6 0) 100 5 1) n c d 0 l a := by
  obtain ⟨hA, hD, hP, hU, hF, hR, hK, hL, h7⟩ := h
  have hσ : ∀ a, a < 100 → jw2 (jw2 σ 100 8 0) 100 2 0 a = σ a := fun a h => by unfold jw2; rw [if_neg (by omega), if_neg (by omega)]
  have hτ : ∀ a, a < 100 → jw2 (jw2 τ 100 6 0) 100 5 1 a = τ a := fun a h => by unfold jw2; rw [if_neg (by omega), if_neg (by omega)]
  have hσ1 : ∀ q, q ≠ 8 → q ≠ 2 → jw2 (jw2 σ 100 8 0) 100 2 0 100 q = σ 100 q := fun q h8 h2 => by rw [jw2_at, if_pos rfl, if_neg h2, jw2_at, if_pos rfl, if_neg h8]
  have hτ1 : ∀ q, q ≠ 6 → q ≠ 5 → jw2 (jw2 τ 100 6 0) 100 5 1 100 q = τ 100 q := fun q h8 h2 => by rw [jw2_at, if_pos rfl, if_neg h2, jw2_at, if_pos rfl, if_neg h8]
  have hs : jsame τ (jw2 (jw2 τ 100 6 0) 100 5 1) n := jsame_rows (fun a _ h => hτ a (by omega)) n
  refine ⟨tA_fr (fun a _ h => hσ a (by omega)) (hσ1 0 (by decide) (by decide)) (fun a _ h => hτ a (by omega)) (hτ1 2 (by decide) (by decide)) hA, ⟨by simp [jw2_at]; rfl, by simp [jw2_at]; rfl, by omega, fun x hx => ?_, fun i hi => absurd hi (Nat.not_lt_zero _)⟩, tP_fr (hσ 16 (by decide)) (fun a _ h => hτ a (by omega)) hP, Or.inr ⟨by simp [jw2_at], by simp [jw2_at], rfl⟩, tF_fr (tR_n hR).1 (fun a _ h => hσ a (by omega)) (hσ1 6 (by decide) (by decide)) (fun a _ h => hτ a (by omega)) (hτ1 1 (by decide) (by decide)) hs (Nat.le_refl _) (fun f _ _ hm => ⟨by rw [mob_same _ hs]; exact hm, fun r _ => mvl_same _ _ hs⟩) hF, tR_fr (hσ1 1 (by decide) (by decide)) (hτ1 3 (by decide) (by decide)) hs hR, tK_fr (fun a _ h => hσ a (by omega)) (fun a _ h => hτ a (by omega)) hs (Nat.le_refl _) (Nat.le_refl _) hK, tL_fr (fun a _ h => hσ a (by omega)) (fun q g1 g2 => hσ1 q (by omega) (by omega)) (fun a _ h => hτ a (by omega)) (fun q g1 g2 => hτ1 q (by omega) (by omega)) hs (Nat.le_refl _) hL, by rw [hσ1 7 (by decide) (by decide), hτ1 4 (by decide) (by decide)]; exact h7⟩
  rw [hσ 16 (by decide), hτ 10 (by decide)]
  exact hD.2.2.2.1 x hx
theorem M_cut_L (K : JS → Int32 → Option (Int32 × JS)) {σ τ : JS} {n d w : Nat} (hn : n ≤ 120) (hD : tD σ τ n d w) (q : Nat) (hq : q ≤ w) : ∀ (e i fuel : Nat) (τ' : JS), i + e = q → e < fuel → mLd σ τ τ' w i → ∃ τ'', mM_cut_L43 K (nI q) fuel τ' (nI i) = K τ'' (nI q) ∧ mLd σ τ τ'' w q
  | e, i, 0, _, _, h, _ => absurd h (Nat.not_lt_zero _)
  | 0, i, fuel + 1, τ', hi, _, hL => by
    have e : i = q := by omega
    subst e
    have := hD.2.2.1
    exact ⟨τ', by rw [mM_cut_L43, if_pos (nI_le (by omega) (by omega))], hL⟩
  | e + 1, i, fuel + 1, τ', hi, h, hL => by
    have := hD.2.2.1
    obtain ⟨τ2, e1, hL2⟩ := mLd_step hn hD (by omega) hL
    obtain ⟨τ3, e2, hL3⟩ := M_cut_L K hn hD q hq e (i + 1) fuel τ2 (by omega) (by omega) hL2
    exact ⟨τ3, by rw [mM_cut_L43, if_neg (nI_ge (by omega) (by omega)), e1, jbn_s, nI_1, e2], hL3⟩
theorem O_cut : jo_cut JInv := by
  intro σ τ x1 h
  have hJ := fun y => J_thr y h
  obtain ⟨n, c, d, w, l, a, hI⟩ := h
  have hI0 := tI_thr 0 hI
  have hn := (tR_n hI.2.2.2.2.2.1).1
  have hD := hI.2.1
  have hw := hD.2.2.1
  have bad : ∀ (y : Int32) (ko : Nat), ¬ y ≤ 0 → zR ko = y → ko ≠ 0 → ∃ (ko' : Nat) (vo : Int32) (σo : JS) (w : Int32) (τo : JS), some (ko, 0, σ) = some (ko', vo, σo) ∧ mM_cut_J29 τ x1 y = some (w, τo) ∧ τo 100 0 = zR ko' ∧ (ko' = 0 → vo = w) ∧ JInv σo τo := by
    intro y ko hy hz hk
    refine ⟨ko, 0, σ, 0, jw2 τ 100 0 y, rfl, ?_, by rw [thr_0, hz], fun h => absurd h hk, hJ y⟩
    unfold mM_cut_J29
    rw [jst_n, thr_0, if_neg hy]
  unfold mH_cut mM_cut
  rw [hD.1, hD.2.1]
  rcases sx x1 with h | ⟨q, hq, rfl⟩
  · rw [if_pos h, W_neg _ h, jbn_s, if_pos rfl]
    exact bad 1 1 (by decide) rfl (by decide)
  · rw [if_neg (nI_pos hq)]
    by_cases hqw : q ≤ w
    · rw [if_pos (nI_le hqw (by omega)), W_in _ q w hqw (by omega), jbn_s, if_neg n10]
      rcases hI.2.2.2.1 with ⟨u1, u2, u3⟩ | ⟨u1, u2, u3⟩
      · rw [u1, u2, if_neg n10, if_pos (show (0 : Int32) = 0 from rfl), H_land σ q w hD.1 hqw hw (tD_y hD), jbn_s, jst_n]
        unfold mS_loseWaiting mM_cut_J29
        rw [jst_n, jbn_s, jst_n, thr_0, if_pos (show (0 : Int32) ≤ 0 by decide)]
        obtain ⟨τ', e1, hL⟩ := M_cut_L (fun σ7 z8 => jst (jw2 σ7 100 6 (0 : Int32)) fun σ9 => jst (jw2 σ9 100 5 (1 : Int32)) fun σ11 => some ((σ7 100 6), σ11)) hn hI0.2.1 q hqw q 0 999 (jw2 τ 100 0 0) (by omega) (by omega) (mLd_0 hI0.2.1)
        rw [nI_0] at e1
        rw [e1, jst_n, jst_n, hL.2.1]
        have hI1 := tI_land hI0 u1 u2 hqw hL
        refine ⟨0, nI (w - q), jw2 (jw2 (hld σ q w) 100 8 0) 100 2 0, nI (w - q), jw2 (jw2 τ' 100 6 0) 100 5 1, ?_, rfl, ?_, fun _ => rfl, n, c, d, 0, l, a, tI_down hI1⟩
        · exact congrArg (fun z => some ((0 : Nat), z, jw2 (jw2 (hld σ q w) 100 8 0) 100 2 0)) hI1.2.1.1
        · rw [show jw2 (jw2 τ' 100 6 0) 100 5 1 100 0 = τ' 100 0 from rfl, hL.1.2 0 (by decide)]; rfl
      · rw [u1, u2, if_pos rfl, if_neg n10]
        exact bad 2 2 (by decide) rfl (by decide)
    · rw [if_neg (nI_ge (by omega) hq), W_out _ q w (by omega) hq, jbn_s, if_pos rfl]
      exact bad 1 1 (by decide) rfl (by decide)
theorem M_drop_L4 (K : JS → Option (Int32 × JS)) {σ τ : JS} {n d w : Nat} (hn : n ≤ 120) (hD : tD σ τ n d w) : ∀ (e i fuel : Nat) (τ' : JS), i + e = w → e < fuel → mLd σ τ τ' w i → ∃ τ'', mM_drop_L104 K fuel τ' = K τ'' ∧ mLd σ τ τ'' w w
  | e, i, 0, _, _, h, _ => absurd h (Nat.not_lt_zero _)
  | 0, i, fuel + 1, τ', hi, _, hL => by
    have e : i = w := by omega
    subst e
    refine ⟨τ', ?_, hL⟩
    rw [mM_drop_L104, hL.2.1, Nat.sub_self, if_pos (by decide)]
  | e + 1, i, fuel + 1, τ', hi, h, hL => by
    have hw := hD.2.2.1
    obtain ⟨τ2, e1, hL2⟩ := mLd_step hn hD (by omega) hL
    obtain ⟨τ3, e2, hL3⟩ := M_drop_L4 K hn hD e (i + 1) fuel τ2 (by omega) (by omega) hL2
    exact ⟨τ3, by rw [mM_drop_L104, hL.2.1, if_neg (nI_nle (by omega) (by omega)), e1, jbn_s, e2], hL3⟩
def mdp (τ : JS) (n E i : Nat) : Prop := mcy τ (nI i) n = 0 ∨ E < mcy τ (nI i) n
theorem M_drop_L1 (K : Int32 → Int32 → Option (Int32 × JS)) (τ : JS) (n E : Nat) (hl : τ 100 2 = nI n) (hn : n ≤ 120) (hE : E ≤ 1000) : ∀ (e j fuel : Nat) (p : Prop), j + e = 4 → e < fuel → mM_drop_L42 K τ (nI E) fuel (b2 p) (nI j) = K (b2 (p ∧ ∀ i, j ≤ i → i < 4 → mdp τ n E i)) (nI 4)
  | e, j, 0, _, _, h => absurd h (Nat.not_lt_zero _)
  | 0, j, fuel + 1, p, hj, _ => by
    have e : j = 4 := by omega
    subst e
    rw [mM_drop_L42, if_pos (by decide)]
    congr 1
    exact b2_c ⟨fun h => ⟨h, fun i h1 h2 => by omega⟩, fun h => h.1⟩
  | e + 1, j, fuel + 1, p, hj, h => by
    have hle := mcy_le τ (nI j) n
    have key : ∀ v : Int32, v = b2 (p ∧ mdp τ n E j) → mM_drop_L42 K τ (nI E) fuel v (nI j + 1) = K (b2 (p ∧ ∀ i, j ≤ i → i < 4 → mdp τ n E i)) (nI 4) := by
      intro v hv
      rw [hv, nI_1, M_drop_L1 K τ n E hl hn hE e (j + 1) fuel _ (by omega) (by omega)]
      congr 1
      refine b2_c ⟨?_, ?_⟩
      · rintro ⟨⟨h1, h2⟩, h3⟩
        refine ⟨h1, fun i g1 g2 => ?_⟩
        by_cases hi : i = j
        · subst hi; exact h2
        · exact h3 i (by omega) g2
      · rintro ⟨h1, h2⟩
        exact ⟨⟨h1, h2 j (Nat.le_refl _) (by omega)⟩, fun i g1 g2 => h2 i (by omega) g2⟩
    rw [mM_drop_L42, if_neg (by rw [l4]; exact nI_ge (by omega) (by omega)), hl, M_cyc τ (nI j) n hn, jbn_s]
    by_cases hp : p
    · rw [if_neg (by rw [b2_t hp]; decide)]
      by_cases h0 : mcy τ (nI j) n = 0
      · rw [if_pos (by rw [h0]; decide)]
        exact key _ (b2_t ⟨hp, Or.inl h0⟩).symm
      · rw [if_neg (nI_ne0 (by omega) (by omega))]
        by_cases hE2 : mcy τ (nI j) n ≤ E
        · rw [if_pos (nI_le hE2 (by omega))]
          exact key _ (b2_f (fun z => by rcases z.2 with z | z <;> omega)).symm
        · rw [if_neg (nI_ge (by omega) (by omega))]
          exact key _ (b2_t ⟨hp, Or.inr (by omega)⟩).symm
    · rw [if_pos (b2_f hp)]
      exact key _ (b2_f (fun z => hp z.1)).symm
theorem H_endOld (σ : JS) (d : Nat) (h : σ 100 1 = nI d) : mJ_endOfOldest σ = some (nI (8 * d + 8)) := by
  unfold mJ_endOfOldest
  rw [h, nI_1, l8, pk_mul]
  congr 2; omega
theorem H_can_L (K : Int32 → Option Int32) (σ τ : JS) (n d : Nat) (hC : tC σ τ n) (hn : n ≤ 120) (h1 : σ 100 1 = nI d) (hd : d ≤ 15) : ∀ (e j fuel : Nat), j + e = 3 → e < fuel → ((∀ i, j ≤ i → i < 3 → mdp τ n (8 * d + 8) i) → mJ_canDropOldest_L2 K σ fuel (nI j) = K (nI 3)) ∧ (¬ (∀ i, j ≤ i → i < 3 → mdp τ n (8 * d + 8) i) → mJ_canDropOldest_L2 K σ fuel (nI j) = some 0)
  | e, j, 0, _, h => absurd h (Nat.not_lt_zero _)
  | 0, j, fuel + 1, hj, _ => by
    have e : j = 3 := by omega
    subst e
    refine ⟨fun _ => ?_, fun h => absurd (fun i h1 h2 => by omega) h⟩
    rw [mJ_canDropOldest_L2, if_pos (by decide)]
  | e + 1, j, fuel + 1, hj, h => by
    have hle := mcy_le τ (nI j) n
    obtain ⟨ih1, ih2⟩ := H_can_L K σ τ n d hC hn h1 hd e (j + 1) fuel (by omega) (by omega)
    have st : mJ_canDropOldest_L2 K σ (fuel + 1) (nI j) = if 0 < mcy τ (nI j) n ∧ mcy τ (nI j) n ≤ 8 * d + 8 then some 0 else mJ_canDropOldest_L2 K σ fuel (nI (j + 1)) := by
      rw [mJ_canDropOldest_L2, if_neg (by rw [l3]; exact nI_ge (by omega) (by omega)), H_open σ τ n j hC hn (by omega), jbn_s, nI_1]
      by_cases hp : 0 < mcy τ (nI j) n
      · rw [if_neg (by rw [b2_t hp]; decide), jrd_n _ _ _ _ _ (by omega) (by decide), (hC j (by omega)).1, H_endOld σ d h1, jbn_s]
        by_cases hz : mcy τ (nI j) n ≤ 8 * d + 8
        · rw [if_neg (nI_nlt hz (by omega)), if_pos ⟨hp, hz⟩]
        · rw [if_pos (nI_lt (by omega) (by omega)), if_neg (fun z => hz z.2)]
      · rw [if_pos (b2_f hp), if_neg (fun z => hp z.1)]
    rw [st]
    constructor
    · intro hall
      rw [if_neg (fun z => by rcases hall j (Nat.le_refl _) (by omega) with q | q <;> omega)]
      exact ih1 (fun i g1 g2 => hall i (by omega) g2)
    · intro hno
      by_cases hz : 0 < mcy τ (nI j) n ∧ mcy τ (nI j) n ≤ 8 * d + 8
      · rw [if_pos hz]
      · rw [if_neg hz]
        refine ih2 (fun hall => hno (fun i g1 g2 => ?_))
        by_cases hi : i = j
        · subst hi
          unfold mdp
          omega
        · exact hall i (by omega) g2
theorem tI_drop {σ τ : JS} {n c d l a : Nat} (h : tI σ τ n c d 0 l a) (hu : σ 100 8 = 1) (hE : 8 * d + 8 ≤ n) (ho : ∀ i, i < 4 → mdp τ n (8 * d + 8) i) : tI (jw2 σ 100 1 (nI (d + 1))) (jw2 τ 100 3 (nI (d + 1))) n c (d + 1) 0 l a := by
  have hX := tI_X h hu
  obtain ⟨hA, hD, hP, hU, hF, hR, hK, hL, h7⟩ := h
  have hQ := hX.2.2.2
  have hσ : ∀ a, a < 100 → jw2 σ 100 1 (nI (d + 1)) a = σ a := fun a h => by unfold jw2; rw [if_neg (by omega)]
  have hτ : ∀ a, a < 100 → jw2 τ 100 3 (nI (d + 1)) a = τ a := fun a h => by unfold jw2; rw [if_neg (by omega)]
  have hσ1 : ∀ q, q ≠ 1 → jw2 σ 100 1 (nI (d + 1)) 100 q = σ 100 q := fun q h => by rw [jw2_at, if_pos rfl, if_neg h]
  have hτ1 : ∀ q, q ≠ 3 → jw2 τ 100 3 (nI (d + 1)) 100 q = τ 100 q := fun q h => by rw [jw2_at, if_pos rfl, if_neg h]
  have hs : jsame τ (jw2 τ 100 3 (nI (d + 1))) n := jsame_rows (fun a _ h => hτ a (by omega)) n
  obtain ⟨b1, b2', b3, b4, b5⟩ := hD
  refine ⟨tA_fr (fun a _ h => hσ a (by omega)) (hσ1 0 (by decide)) (fun a _ h => hτ a (by omega)) (hτ1 2 (by decide)) hA, ⟨(hσ1 2 (by decide)).trans b1, (hτ1 6 (by decide)).trans b2', b3, fun x hx => by rw [hσ 16 (by decide), hτ 10 (by decide)]; exact b4 x hx, fun i hi => absurd hi (Nat.not_lt_zero _)⟩, fun f r hf hr _ => by rw [hσ 16 (by decide), mvl_same _ _ hs]; exact hQ f r hf hr, tUp_fr (fun a _ h => hσ a (by omega)) (hσ1 8 (by decide)) (fun a _ h => hτ a (by omega)) (hτ1 5 (by decide)) hU, tF_fr (tR_n hR).1 (fun a _ h => hσ a (by omega)) (hσ1 6 (by decide)) (fun a _ h => hτ a (by omega)) (hτ1 1 (by decide)) hs (Nat.le_refl _) (fun f _ _ hm => ⟨by rw [mob_same _ hs]; exact hm, fun r _ => mvl_same _ _ hs⟩) hF, ?_, tK_fr (fun a _ h => hσ a (by omega)) (fun a _ h => hτ a (by omega)) hs (Nat.le_refl _) (Nat.le_refl _) hK, tL_fr (fun a _ h => hσ a (by omega)) (fun q g1 g2 => hσ1 q (by omega)) (fun a _ h => hτ a (by omega)) (fun q g1 g2 => hτ1 q (by omega)) hs (Nat.le_refl _) hL, by rw [hσ1 7 (by decide), hτ1 4 (by decide)]; exact h7⟩
  obtain ⟨r1, r2, r3, r4, r5, r6⟩ := hR
  refine ⟨by simp [jw2_at], by simp [jw2_at], by omega, ?_, by rw [mcy_same _ hs]; exact r5, fun i hi => by rw [mcy_same _ hs]; exact ho i hi⟩
  rw [mrs_same hs]
  unfold mcap at r4 ⊢
  split at r4 <;> split <;> omega
theorem O_drop : jo_drop JInv := by
  intro σ τ h
  have hJ := fun y => J_thr y h
  obtain ⟨n, c, d, w, l, a, hI⟩ := h
  have hI0 := tI_thr 0 hI
  have hR := hI.2.2.2.2.2.1
  obtain ⟨hn, hd⟩ := tR_n hR
  have hA := hI.1
  have hD := hI.2.1
  have h7 := hI.2.2.2.2.2.2.2.2
  have bad : ∃ (ko : Nat) (vo : Int32) (σo : JS) (w : Int32) (τo : JS), some (2, 0, σ) = some (ko, vo, σo) ∧ mM_drop_J95 τ 0 1 = some (w, τo) ∧ τo 100 0 = zR1 ko ∧ (ko = 0 → vo = w) ∧ ¬ ko = 1 ∧ JInv σo τo := by
    refine ⟨2, 0, σ, 0, jw2 τ 100 0 1, rfl, ?_, rfl, fun h => absurd h (by decide), by decide, hJ 1⟩
    unfold mM_drop_J95
    rw [jst_n, if_pos rfl]
  have hmod : ∀ p : Prop, mM_drop_J39 τ (nI (8 * d + 8)) (b2 p) = if b2 (p ∧ ∀ i, 0 ≤ i → i < 4 → mdp τ n (8 * d + 8) i) = 0 then mM_drop_J95 τ (b2 (p ∧ ∀ i, 0 ≤ i → i < 4 → mdp τ n (8 * d + 8) i)) 1 else mM_drop_J95 τ (b2 (p ∧ ∀ i, 0 ≤ i → i < 4 → mdp τ n (8 * d + 8) i)) 0 := fun p => by
    unfold mM_drop_J39
    rw [l0, M_drop_L1 _ τ n (8 * d + 8) hA.1.2.1 hn (by omega) 4 0 999 p (by omega) (by omega)]
  have hmod1 := hmod True
  rw [show b2 True = (1 : Int32) from b2_t trivial] at hmod1
  have mbad : mM_drop_J38 τ (nI (8 * d + 8)) = mM_drop_J95 τ 0 1 := by
    unfold mM_drop_J38
    rw [show (0 : Int32) = b2 False from (b2_f id).symm, hmod, b2_f (fun z => z.1), b2_f id, if_pos rfl]
  unfold mH_drop mM_drop
  rw [hR.2.1, l8, pk_mul, nI_add, mbad]
  rcases hI.2.2.2.1 with ⟨u1, u2, u3⟩ | ⟨u1, u2, u3⟩
  · rw [u1, u2, if_neg n10, if_pos (show (0 : Int32) = 0 from rfl), hA.1.2.1, H_endOld σ d hR.1, jbn_s]
    have hcan : mJ_canDropOldest σ = some (b2 ((∀ i, 0 ≤ i → i < 3 → mdp τ n (8 * d + 8) i) ∧ 8 * d + 8 ≤ n)) := by
      unfold mJ_canDropOldest
      obtain ⟨c1, c2⟩ := H_can_L (fun z8 => jbn (mJ_endOfOldest σ) fun q9 => if (σ 100 0) < q9 then (some (0 : Int32)) else (some (1 : Int32))) σ τ n d hA.2.1 hn hR.1 hd 3 0 999 (by omega) (by omega)
      rw [nI_0] at c1 c2
      by_cases hall : ∀ i, 0 ≤ i → i < 3 → mdp τ n (8 * d + 8) i
      · rw [c1 hall, H_endOld σ d hR.1, jbn_s, hA.1.1]
        by_cases hE : 8 * d + 8 ≤ n
        · rw [if_neg (nI_nlt hE (by omega)), b2_t ⟨hall, hE⟩]
        · rw [if_pos (nI_lt (by omega) (by omega)), b2_f (fun z => hE z.2)]
      · rw [c2 hall, b2_f (fun z => hall z.1)]
    rw [hcan, jbn_s]
    have h3 : mdp τ n (8 * d + 8) 3 := Or.inl hR.2.2.2.2.1
    by_cases hE : 8 * d + 8 ≤ n
    · rw [if_neg (nI_nlt hE (by omega))]
      by_cases hk : nI (8 * d + 8) ≤ σ 100 7
      · rw [if_pos hk, if_neg (show ¬ τ 100 4 < nI (8 * d + 8) from by rw [← h7]; exact Int32.not_lt.mpr hk)]
        by_cases hall : ∀ i, 0 ≤ i → i < 3 → mdp τ n (8 * d + 8) i
        · have ho : ∀ i, 0 ≤ i → i < 4 → mdp τ n (8 * d + 8) i := fun i g1 g2 => by
            by_cases hi : i = 3
            · subst hi; exact h3
            · exact hall i g1 (by omega)
          rw [b2_t ⟨hall, hE⟩, if_neg n10, hmod1, b2_t (p := True ∧ ∀ i, 0 ≤ i → i < 4 → mdp τ n (8 * d + 8) i) ⟨trivial, ho⟩, if_neg n10]
          unfold mM_drop_J95
          rw [jst_n, if_neg n10, hD.1, H_land σ w w hD.1 (Nat.le_refl _) hD.2.2.1 (tD_y hD), jbn_s, jst_n]
          obtain ⟨τ', e1, hL⟩ := M_drop_L4 (fun σ9 => jst (jw2 σ9 100 3 ((σ9 100 3) + (1 : Int32))) fun σ10 => some ((σ10 100 3), σ10)) hn hI0.2.1 w 0 999 (jw2 τ 100 0 0) (by omega) (by have := hD.2.2.1; omega) (mLd_0 hI0.2.1)
          have hI1 := tI_land hI0 u1 u2 (Nat.le_refl w) hL
          rw [Nat.sub_self] at hI1
          have hs0 := mfr_same hL.1 n
          have hs1 : jsame τ (jw2 τ 100 0 0) n := jsame_rows (fun a h1 h2 => by unfold jw2; rw [if_neg (by omega)]) n
          have hI2 := tI_drop hI1 (by rw [hld_100, if_neg (by decide)]; exact u1) hE (fun i hi => by unfold mdp; rw [mcy_same _ hs0, mcy_same _ hs1]; exact ho i (Nat.zero_le _) hi)
          rw [e1, jst_n, hI1.2.2.2.2.2.1.2.1, hI1.2.2.2.2.2.1.1, nI_1]
          refine ⟨0, nI (d + 1), jw2 (hld σ w w) 100 1 (nI (d + 1)), nI (d + 1), jw2 τ' 100 3 (nI (d + 1)), ?_, ?_, ?_, fun _ => rfl, by decide, n, c, d + 1, 0, l, a, hI2⟩
          · exact congrArg (fun z => some ((0 : Nat), z, jw2 (hld σ w w) 100 1 (nI (d + 1)))) hI2.2.2.2.2.2.1.1
          · exact congrArg (fun z => some (z, jw2 τ' 100 3 (nI (d + 1)))) hI2.2.2.2.2.2.1.2.1
          · rw [show jw2 τ' 100 3 (nI (d + 1)) 100 0 = τ' 100 0 from rfl, hL.1.2 0 (by decide)]; rfl
        · rw [b2_f (fun z => hall z.1), if_pos rfl, hmod1, b2_f (p := True ∧ ∀ i, 0 ≤ i → i < 4 → mdp τ n (8 * d + 8) i) (fun z => hall (fun i g1 g2 => z.2 i g1 (by omega))), if_pos rfl]
          exact bad
      · rw [if_neg hk, if_pos (show τ 100 4 < nI (8 * d + 8) from by rw [← h7]; exact Int32.not_le.mp hk), ite_self]
        exact bad
    · rw [if_pos (nI_lt (by omega) (by omega)), b2_f (fun z => hE z.2), if_pos rfl]
      exact bad
  · rw [u1, u2, if_pos rfl, if_neg n10]
    exact bad
