theorem tI_L {σ σ' τ τ' : JS} {n c d w l a l' a' : Nat} (h : tI σ τ n c d w l a) (hσ : ∀ q, q < 23 ∨ (25 < q ∧ q < 29) → σ' q = σ q) (h1 : ∀ q, q ≠ 3 → q ≠ 4 → q ≠ 5 → σ' 100 q = σ 100 q) (hτ : ∀ q, q < 14 → τ' q = τ q) (h2 : ∀ q, q ≠ 0 → q ≠ 7 → q ≠ 8 → q ≠ 9 → τ' 100 q = τ 100 q) (hL : tL σ' τ' n l' a') : tI σ' τ' n c d w l' a' := by
  have hs : jsame τ τ' n := jsame_rows (fun q g1 g2 => hτ q (by omega)) n
  have hR := h.2.2.2.2.2.1
  refine tI_fr h (fun q g1 g2 => hσ q (by omega)) (fun q g => h1 q (by omega) (by omega) (by omega)) (fun q g1 g2 => hτ q (by omega)) (fun q g => h2 q (by omega) (by omega) (by omega) (by omega)) (Nat.le_refl c) (tF_fr (tR_n hR).1 (fun q g1 g2 => hσ q (by omega)) (h1 6 (by decide) (by decide) (by decide)) (fun q g1 g2 => hτ q (by omega)) (h2 1 (by decide) (by decide) (by decide) (by decide)) hs (Nat.le_refl _) (fun f _ _ hm => ⟨by rw [mob_same _ hs]; exact hm, fun r _ => mvl_same _ _ hs⟩) h.2.2.2.2.1) (tK_fr (fun q g1 g2 => hσ q (by omega)) (fun q g1 g2 => hτ q (by omega)) hs (Nat.le_refl _) (Nat.le_refl _) h.2.2.2.2.2.2.1) hL ?_
  rw [h1 7 (by decide) (by decide) (by decide), h2 4 (by decide) (by decide) (by decide) (by decide)]
  exact h.2.2.2.2.2.2.2.2
/-- a letter put -/
theorem tL_put {σ τ : JS} {n l a k : Nat} (hL : tL σ τ n l a) (hl : l < 16) (k1 : 1 ≤ k) (k2 : k ≤ n) : tL (jw2 (jw2 σ 23 l (nI k)) 100 3 (nI (l + 1))) (jw2 (jw2 τ 14 l (nI k)) 100 7 (nI (l + 1))) n (l + 1) a := by
  obtain ⟨a1, a2, a3, a4, a5, a6, a7, a8, a9, a10, a11⟩ := hL
  have hs : ∀ m, jsame τ (jw2 (jw2 τ 14 l (nI k)) 100 7 (nI (l + 1))) m := fun m q _ _ => ⟨rfl, rfl, rfl, rfl, rfl, rfl⟩
  have s23 : ∀ x, jw2 (jw2 σ 23 l (nI k)) 100 3 (nI (l + 1)) 23 x = if x = l then nI k else σ 23 x := fun x => by simp only [jw2_at]; simp
  have s14 : ∀ x, jw2 (jw2 τ 14 l (nI k)) 100 7 (nI (l + 1)) 14 x = if x = l then nI k else τ 14 x := fun x => by simp only [jw2_at]; simp
  refine ⟨by simp [jw2_at], by simp [jw2_at], by omega, fun i hi => ?_, a5, a6, a7, a8, a9, a10, ?_⟩
  · rw [s23, s14]
    by_cases h : i = l
    · rw [if_pos h, if_pos h]
      exact ⟨k, k1, k2, rfl, rfl⟩
    · rw [if_neg h, if_neg h]
      exact a4 i (by omega)
  · rcases a11 with ⟨b1, b2⟩ | ⟨b1, b2⟩
    · exact Or.inl ⟨b1, fun f r hf hr => by rw [mvl_same _ _ (hs _)]; exact b2 f r hf hr⟩
    · exact Or.inr ⟨b1, fun f r hf hr => by rw [mvl_same _ _ (hs _), mtd_same _ _ a (hs a) a _ (Nat.le_refl _)]; exact b2 f r hf hr⟩
/-- a letter taken -/
def hTk (σ : JS) (l i : Nat) : JS := jwA (jw2 σ 100 3 (nI (l - 1))) 23 (va_cpy (σ 23) (σ 23) (i + 1) i (l - 1 - i))
def mTk (τ : JS) (l i : Nat) : JS := jwA (jw2 τ 100 7 (nI (l - 1))) 14 (va_cpy (τ 14) (τ 14) (i + 1) i (l - 1 - i))
theorem H_take (σ : JS) (l i : Nat) (h : σ 100 3 = nI l) (hl : l ≤ 16) (hi : i < l) : mL_take σ (nI i) = some (σ 23 i, hTk σ l i) := by
  unfold mL_take
  rw [jrd_n _ _ _ _ _ (by omega) (by decide), jst_n, h, show nI l - 1 = nI (l - 1) from by rw [show l = (l - 1) + 1 by omega, nI_pred]; rfl, show jw2 σ 100 3 (nI (l - 1)) 100 3 = nI (l - 1) by simp [jw2_at], pk_sub (by omega), nI_1, jcp_n _ _ _ _ _ _ _ _ _ (by omega) (by omega) (by decide) (by decide)]
  rfl
theorem tL_take {σ τ : JS} {n l a i : Nat} (hL : tL σ τ n l a) (hi : i < l) : tL (hTk σ l i) (mTk τ l i) n (l - 1) a := by
  obtain ⟨a1, a2, a3, a4, a5, a6, a7, a8, a9, a10, a11⟩ := hL
  have hs : ∀ m, jsame τ (mTk τ l i) m := fun m q _ _ => ⟨rfl, rfl, rfl, rfl, rfl, rfl⟩
  refine ⟨by unfold hTk; simp [jw2_at, jwA_at], by unfold mTk; simp [jw2_at, jwA_at], by omega, fun x hx => ?_, a5, a6, a7, a8, a9, a10, ?_⟩
  · have s23 : hTk σ l i 23 x = va_cpy (σ 23) (σ 23) (i + 1) i (l - 1 - i) x := rfl
    have s14 : mTk τ l i 14 x = va_cpy (τ 14) (τ 14) (i + 1) i (l - 1 - i) x := rfl
    rw [s23, s14]
    by_cases hxi : i ≤ x
    · rw [pk_cpy_in hxi (by omega), pk_cpy_in hxi (by omega)]
      exact a4 _ (by omega)
    · rw [pk_cpy_out (by omega), pk_cpy_out (by omega)]
      exact a4 x (by omega)
  · rcases a11 with ⟨b1, b2⟩ | ⟨b1, b2⟩
    · exact Or.inl ⟨b1, fun f r hf hr => by rw [mvl_same _ _ (hs _)]; exact b2 f r hf hr⟩
    · exact Or.inr ⟨b1, fun f r hf hr => by rw [mvl_same _ _ (hs _), mtd_same _ _ a (hs a) a _ (Nat.le_refl _)]; exact b2 f r hf hr⟩
theorem hTk_row (σ : JS) (l i q : Nat) (h : q ≠ 23) (h2 : q ≠ 100) : hTk σ l i q = σ q := by
  unfold hTk jwA jw2
  rw [if_neg h, if_neg h2]
theorem hTk_100 (σ : JS) (l i q : Nat) (h : q ≠ 3) : hTk σ l i 100 q = σ 100 q := by
  unfold hTk
  rw [jwA_at, if_neg (by decide), jw2_at, if_pos rfl, if_neg h]
theorem mTk_row (τ : JS) (l i q : Nat) (h : q ≠ 14) (h2 : q ≠ 100) : mTk τ l i q = τ q := by
  unfold mTk jwA jw2
  rw [if_neg h, if_neg h2]
theorem mTk_100 (τ : JS) (l i q : Nat) (h : q ≠ 7) : mTk τ l i 100 q = τ 100 q := by
  unfold mTk
  rw [jwA_at, if_neg (by decide), jw2_at, if_pos rfl, if_neg h]
theorem tI_take {σ τ : JS} {n c d w l a i : Nat} (h : tI σ τ n c d w l a) (hi : i < l) : tI (hTk σ l i) (mTk τ l i) n c d w (l - 1) a :=
  tI_L h (fun q g => hTk_row _ _ _ _ (by omega) (by omega)) (fun q g1 g2 g3 => hTk_100 _ _ _ _ g1) (fun q g => mTk_row _ _ _ _ (by omega) (by omega)) (fun q g0 g1 g2 g3 => mTk_100 _ _ _ _ g1) (tL_take h.2.2.2.2.2.2.2.1 hi)
theorem M_take (K : JS → Int32 → Option (Int32 × JS)) (x2 x4 : Int32) (τ : JS) (l i : Nat) (h7 : τ 100 7 = nI l) (hl : l ≤ 16) (hi : i < l) : jst (jw2 τ 100 7 ((τ 100 7) - (1 : Int32))) (fun σ10 => mM_link_L151 K x2 x4 999 σ10 (nI i)) = K (mTk τ l i) (nI (l - 1)) := by
  rw [jst_n, h7, show nI l - 1 = nI (l - 1) from by rw [show l = (l - 1) + 1 by omega, nI_pred]; rfl]
  have e := M_take_L K x2 x4 (jw2 τ 100 7 (nI (l - 1))) (l - 1) i (by simp [jw2_at]) (by omega) (by omega) (l - 1 - i) 0 999 (by omega) (by omega)
  rw [cpy_14] at e
  exact e
theorem O_link : jo_link JInv := by
  intro σ τ x1 x2 h
  have hJ := fun y => J_thr y h
  obtain ⟨n, c, d, w, l, a, hI⟩ := h
  have hI0 := tI_thr 0 hI
  have hR := hI.2.2.2.2.2.1
  obtain ⟨hn, hd⟩ := tR_n hR
  have hA := hI.1
  have hL := hI.2.2.2.2.2.2.2.1
  have hL0 := hI0.2.2.2.2.2.2.2.1
  have hl := hL.2.2.1
  have hc := hI.2.2.2.2.1.2.2.1
  have bad : ∀ (y : Int32) (ko : Nat), ¬ y ≤ 0 → zR ko = y → ko ≠ 0 → ∃ (ko' : Nat) (vo : Int32) (σo : JS) (w : Int32) (τo : JS), some (ko, 0, σ) = some (ko', vo, σo) ∧ mM_link_J74 τ x1 x2 y = some (w, τo) ∧ τo 100 0 = zR ko' ∧ (ko' = 0 → vo = w) ∧ JInv σo τo := by
    intro y ko hy hz hk
    refine ⟨ko, 0, σ, 0, jw2 τ 100 0 y, rfl, ?_, by rw [thr_0, hz], fun h => absurd h hk, hJ y⟩
    unfold mM_link_J74
    rw [jst_n, thr_0, if_neg hy]
  have hJ74 : mM_link_J74 τ x1 x2 0 = if x2 ≤ (1 : Int32) then (jrd (jw2 τ 100 0 0) 14 17 x1 fun v7 => jst (jw2 (jw2 τ 100 0 0) 100 7 ((jw2 τ 100 0 0 100 7) - (1 : Int32))) fun σ10 => mM_link_L151 (fun σ18 z19 => if x2 = 0 then (if (σ18 100 9) = 0 then (jwr σ18 15 122 v7 (1 : Int32) fun σ20 => mM_link_L201 999 σ20) else (some ((σ18 100 7), σ18))) else (some ((σ18 100 7), σ18))) x2 v7 999 σ10 x1) else (if x2 = (3 : Int32) then (jwr (jw2 τ 100 0 0) 14 17 (jw2 τ 100 0 0 100 7) x1 fun σ36 => jst (jw2 σ36 100 7 ((σ36 100 7) + (1 : Int32))) fun σ39 => some ((σ39 100 7), σ39)) else (jrd (jw2 τ 100 0 0) 14 17 x1 fun v28 => jwr (jw2 τ 100 0 0) 14 17 (jw2 τ 100 0 0 100 7) v28 fun σ31 => jst (jw2 σ31 100 7 ((σ31 100 7) + (1 : Int32))) fun σ34 => some ((σ34 100 7), σ34))) := by
    unfold mM_link_J74
    rw [jst_n, thr_0, if_pos (show (0 : Int32) ≤ 0 by decide)]
  have good : ∀ k : Nat, 1 ≤ k → k ≤ n → l < 16 → ∃ (ko' : Nat) (vo : Int32) (σo : JS) (w : Int32) (τo : JS), jbn (mL_put σ (nI k)) (fun q14 => some (0, (q14 100 3), q14)) = some (ko', vo, σo) ∧ (jwr (jw2 τ 100 0 0) 14 17 (jw2 τ 100 0 0 100 7) (nI k) fun σ36 => jst (jw2 σ36 100 7 ((σ36 100 7) + (1 : Int32))) fun σ39 => some ((σ39 100 7), σ39)) = some (w, τo) ∧ τo 100 0 = zR ko' ∧ (ko' = 0 → vo = w) ∧ JInv σo τo := by
    intro k k1 k2 hl16
    unfold mL_put
    rw [hL.1, jwr_n _ _ _ _ _ _ (by omega) (by decide), jst_n, show jw2 σ 23 l (nI k) 100 3 = nI l from hL.1, nI_1, jbn_s, hL0.2.1, jwr_n _ _ _ _ _ _ (by omega) (by decide), jst_n, show jw2 (jw2 τ 100 0 0) 14 l (nI k) 100 7 = nI l from hL0.2.1, nI_1]
    have hL2 := tL_put hL0 hl16 k1 k2
    refine ⟨0, nI (l + 1), jw2 (jw2 σ 23 l (nI k)) 100 3 (nI (l + 1)), nI (l + 1), jw2 (jw2 (jw2 τ 100 0 0) 14 l (nI k)) 100 7 (nI (l + 1)), ?_, ?_, rfl, fun _ => rfl, n, c, d, w, l + 1, a, ?_⟩
    · exact congrArg (fun z => some ((0 : Nat), z, jw2 (jw2 σ 23 l (nI k)) 100 3 (nI (l + 1)))) hL2.1
    · exact congrArg (fun z => some (z, jw2 (jw2 (jw2 τ 100 0 0) 14 l (nI k)) 100 7 (nI (l + 1)))) hL2.2.1
    · exact tI_L hI0 (fun q g => by unfold jw2; rw [if_neg (by omega), if_neg (by omega)]) (fun q g1 g2 g3 => by rw [jw2_at, if_pos rfl, if_neg g1]; rfl) (fun q g => by unfold jw2; rw [if_neg (by omega), if_neg (by omega)]) (fun q g0 g1 g2 g3 => by rw [jw2_at, if_pos rfl, if_neg g1]; rfl) hL2
  unfold mH_link mM_link mM_link_J24 mM_link_J39
  rcases sx x2 with h | ⟨q, hq, rfl⟩
  · rw [if_pos h, if_neg (show ¬ x2 = (3 : Int32) from neg_ne h 3 (by omega)), W_neg _ h]
    rcases W_pred τ x1 l (by omega) with ⟨j, hj, rfl, hw⟩ | ⟨hx, hw⟩
    · rw [hL.2.1, hw, jbn_s, jbn_s, if_pos rfl]
      exact bad 1 1 (by decide) rfl (by decide)
    · rw [hL.2.1, hw, jbn_s, jbn_s, if_pos rfl]
      exact bad 1 1 (by decide) rfl (by decide)
  · rw [if_neg (nI_pos hq)]
    by_cases hq3 : q ≤ 3
    · rw [if_pos (show nI q ≤ (3 : Int32) from nI_le (b := 3) hq3 (by omega)), show mM_within τ (nI q) 0 3 = some 1 from W_in τ q 3 hq3 (by omega)]
      by_cases hqe : q = 3
      · subst hqe
        rw [if_pos (show nI 3 = (3 : Int32) from rfl), if_pos (show nI 3 = (3 : Int32) from rfl)]
        rcases Q_kept σ τ x1 n d hA.1.1 hR.1 hA.1.2.1 hR.2.1 hn hR.2.2.1 with ⟨k, k1, k2, rfl, e1, e2⟩ | ⟨e1, e2⟩
        · rw [e1, e2, jbn_s, jbn_s, jbn_s, if_neg n10, if_neg n10, if_neg n10, if_neg (show ¬ nI 3 ≤ (1 : Int32) by decide), hL.2.1]
          unfold mH_link_J55 mH_link_J65 mH_link_J70 mH_link_J83 mH_link_J107 mM_link_J57 mM_link_J69 mM_link_J73
          rw [if_pos (show nI 3 = (3 : Int32) from rfl), if_pos (show nI 3 = (3 : Int32) from rfl), if_pos (show nI 3 = (3 : Int32) from rfl), if_neg n10, hL.1, if_neg (show ¬ nI 3 = 0 by decide), if_neg (show ¬ nI 3 = 1 by decide), if_neg (show ¬ nI 3 = 2 by decide)]
          by_cases hl16 : l = 16
          · subst hl16
            rw [if_pos (show nI 16 = (16 : Int32) from rfl), if_pos (show nI 16 = (16 : Int32) from rfl), ite_self]
            exact bad 2 2 (by decide) rfl (by decide)
          · rw [if_neg (show ¬ nI l = (16 : Int32) from fun z => hl16 (nI_inj (b := 16) (by omega) (by omega) z)), if_neg (show ¬ nI l = (16 : Int32) from fun z => hl16 (nI_inj (b := 16) (by omega) (by omega) z))]
            rcases hI.2.2.2.1 with ⟨u1, u2, u3⟩ | ⟨u1, u2, u3⟩
            · rw [u1, u2, if_neg n10, if_pos (show (0 : Int32) = 0 from rfl), hJ74, if_neg (show ¬ nI 3 ≤ (1 : Int32) by decide), if_pos (show nI 3 = (3 : Int32) from rfl)]
              exact good k (by omega) k2 (by omega)
            · rw [u1, u2, if_pos rfl, if_neg n10]
              exact bad 2 2 (by decide) rfl (by decide)
        · rw [e1, e2, jbn_s, jbn_s, jbn_s, if_neg n10, if_pos rfl, if_pos rfl]
          exact bad 1 1 (by decide) rfl (by decide)
      · have hqn3 : ¬ nI q = (3 : Int32) := fun z => hqe (nI_inj (b := 3) (by omega) (by omega) z)
        rw [if_neg hqn3, if_neg hqn3, hL.2.1]
        unfold mL_isLetter
        rw [hL.1]
        rcases W_pred τ x1 l (by omega) with ⟨i, hi, rfl, hw⟩ | ⟨hx, hw⟩
        · rw [hw, jbn_s, jbn_s, if_neg n10, if_neg (nI_pos (by omega)), if_neg (nI_ge hi (by omega)), jbn_s, if_neg n10, if_neg n10]
          unfold mH_link_J55 mH_link_J65 mH_link_J70 mH_link_J83 mM_link_J57 mM_link_J69 mM_link_J73
          simp only [if_neg hqn3, if_neg n10, if_pos (show (0 : Int32) = 0 from rfl), hL.1]
          obtain ⟨k, k1, k2, g23, g14⟩ := hL0.2.2.2.1 i hi
          have ht := tI_take hI0 hi
          have htL := ht.2.2.2.2.2.2.2.1
          rcases (show q = 0 ∨ q = 1 ∨ q = 2 by omega) with rfl | rfl | rfl
          · unfold mH_link_J107
            rw [if_neg (show ¬ nI 0 = (2 : Int32) by decide), if_pos (show nI 0 = 0 from rfl), if_pos (show nI 0 ≤ (1 : Int32) by decide), H_take σ l i hL.1 hl hi, jbn_s, hJ74, if_pos (show nI 0 ≤ (1 : Int32) by decide), jrd_n _ _ _ _ _ (by omega) (by decide), g14, M_take _ _ _ _ l i hL0.2.1 hl hi, if_pos (show nI 0 = 0 from rfl), g23]
            unfold mR_receive
            have e5 : hTk σ l i 100 5 = mTk (jw2 τ 100 0 0) l i 100 9 := htL.2.2.2.2.2.2.2.2.2.1
            rcases htL.2.2.2.2.2.2.2.2.2.2 with ⟨b1, b2'⟩ | ⟨b1, b2'⟩
            · rw [if_pos b1, if_pos (e5.symm.trans b1), jwr_n _ _ _ _ _ _ (by omega) (by decide), jwr_n _ _ _ _ _ _ (by omega) (by decide)]
              obtain ⟨a1, a2, a3, a4, a5, a6, a7, a8, a9, a10, a11⟩ := htL
              have hs : jsame (mTk (jw2 τ 100 0 0) l i) (jw2 (mTk (jw2 τ 100 0 0) l i) 15 k 1) a := fun m _ _ => ⟨rfl, rfl, rfl, rfl, rfl, rfl⟩
              have hT : tRec (jw2 (hTk σ l i) 25 k 1) (jw2 (mTk (jw2 τ 100 0 0) l i) 15 k 1) n a := by
                refine ⟨fun m hm => ?_, fun m hm => ?_, a7, a8, a9, fun f r hf hr => by rw [mvl_same _ _ hs]; exact b2' f r hf hr⟩
                · rw [jw2_at, if_pos rfl, jw2_at, if_pos rfl, a5 m hm]
                · rw [jw2_at, if_pos rfl] at hm
                  by_cases hmk : m = k
                  · omega
                  · rw [if_neg hmk] at hm
                    exact a6 m hm
              have hA2 : tA (jw2 (hTk σ l i) 25 k 1) (jw2 (mTk (jw2 τ 100 0 0) l i) 15 k 1) n c := tA_fr (σ := hTk σ l i) (τ := mTk (jw2 τ 100 0 0) l i) (fun q g1 g2 => by unfold jw2; rw [if_neg (by omega)]) rfl (fun q g1 g2 => by unfold jw2; rw [if_neg (by omega)]) rfl ht.1
              obtain ⟨σ', τ', a', z1, z2, z3, z4, z5, z6, z7⟩ := rec_L hn hc (n - a) 999 999 a _ _ (by omega) (by omega) (by omega) hA2 hT
              rw [z1, z2, jbn_s]
              obtain ⟨c1, c2, c3, c4, c5, c6⟩ := z3
              have x3 : σ' 100 3 = nI (l - 1) := by rw [z5 3 (by decide)]; exact a1
              refine ⟨0, nI (l - 1), σ', nI (l - 1), τ', by rw [x3]; rfl, ?_, ?_, fun _ => rfl, n, c, d, w, l - 1, a', ?_⟩
              · exact congrArg (fun z => some (z, τ')) a2
              · rw [z7 0 (by decide)]; rfl
              · refine tI_L ht (fun q g => by rw [z4 q (by omega) (by omega)]; unfold jw2; rw [if_neg (by omega)]) (fun q g1 g2 g3 => by rw [z5 q g2]; rfl) (fun q g => by rw [z6 q (by omega)]; unfold jw2; rw [if_neg (by omega)]) (fun q g0 g1 g2 g3 => by rw [z7 q g2]; rfl) ⟨x3, by rw [z7 7 (by decide)]; exact a2, a3, fun m hm => by rw [z4 23 (by decide) (by decide), z6 14 (by decide)]; exact a4 m hm, c1, c2, c3, c4, c5, ?_, Or.inl ⟨?_, c6⟩⟩
                · rw [z5 5 (by decide), z7 9 (by decide)]; exact a10
                · rw [z5 5 (by decide)]; exact b1
            · have n5 : ¬ hTk σ l i 100 5 = 0 := by rw [b1]; exact n10
              rw [if_neg n5, if_neg (fun z => n5 (e5.trans z)), jbn_s]
              exact ⟨0, nI (l - 1), hTk σ l i, nI (l - 1), mTk (jw2 τ 100 0 0) l i, congrArg (fun z => some ((0 : Nat), z, hTk σ l i)) htL.1, congrArg (fun z => some (z, mTk (jw2 τ 100 0 0) l i)) htL.2.1, by rw [mTk_100 _ _ _ 0 (by decide), thr_0]; rfl, fun _ => rfl, n, c, d, w, l - 1, a, ht⟩
          · unfold mH_link_J107
            rw [if_neg (show ¬ nI 1 = (2 : Int32) by decide), if_neg (show ¬ nI 1 = 0 by decide), if_pos (show nI 1 = 1 from rfl), if_pos (show nI 1 ≤ (1 : Int32) by decide), H_take σ l i hL.1 hl hi, jbn_s, hJ74, if_pos (show nI 1 ≤ (1 : Int32) by decide), jrd_n _ _ _ _ _ (by omega) (by decide), M_take _ _ _ _ l i hL0.2.1 hl hi, if_neg (show ¬ nI 1 = 0 by decide)]
            exact ⟨0, nI (l - 1), hTk σ l i, nI (l - 1), mTk (jw2 τ 100 0 0) l i, congrArg (fun z => some ((0 : Nat), z, hTk σ l i)) htL.1, congrArg (fun z => some (z, mTk (jw2 τ 100 0 0) l i)) htL.2.1, by rw [mTk_100 _ _ _ 0 (by decide), thr_0]; rfl, fun _ => rfl, n, c, d, w, l - 1, a, ht⟩
          · unfold mH_link_J107
            rw [if_pos (show nI 2 = (2 : Int32) from rfl), if_neg (show ¬ nI 2 ≤ (1 : Int32) by decide), if_neg (show ¬ nI 2 = 0 by decide), if_neg (show ¬ nI 2 = 1 by decide), if_pos (show nI 2 = 2 from rfl)]
            by_cases hl16 : l = 16
            · subst hl16
              rw [if_pos (show nI 16 = (16 : Int32) from rfl), if_pos (show nI 16 = (16 : Int32) from rfl)]
              exact bad 2 2 (by decide) rfl (by decide)
            · rw [if_neg (show ¬ nI l = (16 : Int32) from fun z => hl16 (nI_inj (b := 16) (by omega) (by omega) z)), if_neg (show ¬ nI l = (16 : Int32) from fun z => hl16 (nI_inj (b := 16) (by omega) (by omega) z)), hJ74, if_neg (show ¬ nI 2 ≤ (1 : Int32) by decide), if_neg (show ¬ nI 2 = (3 : Int32) by decide), jrd_n _ _ _ _ _ (by omega) (by decide), jrd_n _ _ _ _ _ (by omega) (by decide), g14, g23]
              exact good k k1 k2 (by omega)
        · rw [hw, jbn_s, jbn_s, if_neg n10]
          have hno : (if x1 < 0 then some (0 : Int32) else if nI l ≤ x1 then some 0 else some 1) = some 0 := by
            rcases sx x1 with h0 | ⟨j, hj, rfl⟩
            · rw [if_pos h0]
            · rw [if_neg (nI_pos hj), if_pos]
              by_cases hjl : j < l
              · exact absurd rfl (hx j hjl)
              · exact nI_le (by omega) hj
          rw [hno, jbn_s, if_pos rfl, if_pos rfl]
          exact bad 1 1 (by decide) rfl (by decide)
    · have hqn3 : ¬ nI q = (3 : Int32) := fun z => by have := nI_inj (b := 3) hq (by omega) z; omega
      rw [if_neg (show ¬ nI q ≤ (3 : Int32) from nI_ge (a := 3) (by omega) hq), if_neg hqn3, show mM_within τ (nI q) 0 3 = some 0 from W_out τ q 3 (by omega) hq]
      rcases W_pred τ x1 l (by omega) with ⟨j, hj, rfl, hw⟩ | ⟨hx, hw⟩
      · rw [hL.2.1, hw, jbn_s, jbn_s, if_pos rfl]
        exact bad 1 1 (by decide) rfl (by decide)
      · rw [hL.2.1, hw, jbn_s, jbn_s, if_pos rfl]
        exact bad 1 1 (by decide) rfl (by decide)
