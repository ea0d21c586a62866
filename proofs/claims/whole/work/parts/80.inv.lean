/-! the invariant of house and model -/
/-- a record's value with the open cycles at a taken back, going down from k -/
def mtd (τ : JS) (f r : Int32) (a : Nat) : Nat → Int32 → Int32
  | 0, v => v
  | k + 1, v => mtd τ f r a k (if τ 4 (k + 1) = 1 ∧ τ 6 (k + 1) = f ∧ τ 7 (k + 1) = r ∧ 0 < mcy τ (τ 5 (k + 1)) a ∧ mcy τ (τ 5 (k + 1)) a ≤ k + 1 then τ 8 (k + 1) else v)
theorem mtd_same {τ τ' : JS} (f r : Int32) (a : Nat) (h : jsame τ τ' a) : ∀ (k : Nat) (v : Int32), k ≤ a → mtd τ' f r a k v = mtd τ f r a k v
  | 0, _, _ => rfl
  | k + 1, v, hk => by
    obtain ⟨h4, h5, h6, h7, h8, h9⟩ := h (k + 1) (by omega) hk
    rw [mtd, mtd, h4, h5, h6, h7, h8, mcy_same _ h, mtd_same f r a h k _ (by omega)]
def tUp (σ τ : JS) (n w : Nat) : Prop := (σ 100 8 = 1 ∧ τ 100 5 = 0 ∧ tQ σ τ n w) ∨ (σ 100 8 = 0 ∧ τ 100 5 = 1 ∧ w = 0)
def tS (σ τ : JS) (n f : Nat) : Prop := σ 27 f = -1 ∨ ∃ m : Nat, m ≤ n ∧ σ 27 f = nI m ∧ mob τ (nI f) n = false ∧ ∀ r : Nat, r < 8 → nI r < τ 1 f → mvl τ (nI f) (nI r) m = mvl τ (nI f) (nI r) n
def tF (σ τ : JS) (n c : Nat) : Prop := σ 100 6 = nI c ∧ τ 100 1 = nI c ∧ c ≤ 3 ∧ (∀ f : Nat, f < 3 → σ 27 f = τ 2 f ∧ σ 28 f = τ 3 f) ∧ (∀ f : Nat, f < c → ∃ z : Nat, 1 ≤ z ∧ z ≤ 8 ∧ σ 26 f = nI z ∧ τ 1 f = nI z) ∧ ∀ f : Nat, f < c → tS σ τ n f
def tR (σ τ : JS) (n d : Nat) : Prop := σ 100 1 = nI d ∧ τ 100 3 = nI d ∧ 8 * d ≤ n ∧ n + mrs τ n ≤ mcap d ∧ mcy τ (nI 3) n = 0 ∧ ∀ j : Nat, j < 4 → mcy τ (nI j) n = 0 ∨ 8 * d < mcy τ (nI j) n
def tK (σ τ : JS) (n c : Nat) : Prop := ∀ s : Nat, s < 4 → (σ 19 s = 0 ∧ τ 12 s = -1) ∨ (σ 19 s = 1 ∧ ∃ f m : Nat, f < c ∧ m ≤ n ∧ τ 12 s = nI f ∧ σ 20 s = nI f ∧ τ 13 s = nI m ∧ σ 21 s = nI m ∧ ∀ r : Nat, r < 8 → σ 22 (8 * s + r) = mvl τ (nI f) (nI r) m)
def tL (σ τ : JS) (n l a : Nat) : Prop := σ 100 3 = nI l ∧ τ 100 7 = nI l ∧ l ≤ 16 ∧ (∀ i, i < l → ∃ k : Nat, 1 ≤ k ∧ k ≤ n ∧ σ 23 i = nI k ∧ τ 14 i = nI k) ∧ (∀ k, k ≤ 120 → σ 25 k = τ 15 k) ∧ (∀ k, τ 15 k ≠ 0 → 1 ≤ k ∧ k ≤ n) ∧ σ 100 4 = nI a ∧ τ 100 8 = nI a ∧ a ≤ n ∧ σ 100 5 = τ 100 9 ∧ ((σ 100 5 = 0 ∧ ∀ f r : Nat, f < 3 → r < 8 → σ 24 (8 * f + r) = mvl τ (nI f) (nI r) a) ∨ (σ 100 5 = 1 ∧ ∀ f r : Nat, f < 3 → r < 8 → σ 24 (8 * f + r) = mtd τ (nI f) (nI r) a a (mvl τ (nI f) (nI r) a)))
def tI (σ τ : JS) (n c d w l a : Nat) : Prop := tA σ τ n c ∧ tD σ τ n d w ∧ tP σ τ n d ∧ tUp σ τ n w ∧ tF σ τ n c ∧ tR σ τ n d ∧ tK σ τ n c ∧ tL σ τ n l a ∧ σ 100 7 = τ 100 4
def JInv (σ τ : JS) : Prop := ∃ n c d w l a : Nat, tI σ τ n c d w l a
theorem mcap_le (d : Nat) : mcap d ≤ 120 := by unfold mcap; split <;> omega
theorem tR_n {σ τ : JS} {n d : Nat} (h : tR σ τ n d) : n ≤ 120 ∧ d ≤ 15 := by
  have := mcap_le d
  have h1 := h.2.2.1
  have h2 := h.2.2.2.1
  omega
theorem mob_put {τ τ' : JS} {n : Nat} (hs : jsame τ τ' n) (h4 : τ' 4 (n + 1) = 1) (g : Int32) (h6 : ¬ τ' 6 (n + 1) = g) : mob τ' g (n + 1) = mob τ g n := by
  have e : ∀ j : Int32, mce τ' j (mof τ' g) (n + 1) = mce τ j (mof τ g) n := fun j => by
    rw [mce_new hs, if_pos h4, decide_eq_false h6, Bool.or_false, ite_self]
  unfold mob
  rw [e, e, e, e]
theorem mob_end {τ τ' : JS} {n : Nat} (hs : jsame τ τ' n) (h4 : ¬ τ' 4 (n + 1) = 1) (g : Int32) (h : mob τ g n = false) : mob τ' g (n + 1) = false := by
  have e : ∀ j : Int32, mce τ j (mof τ g) n = false → mce τ' j (mof τ' g) (n + 1) = false := fun j hj => by
    rw [mce_new hs, if_neg h4, hj, ite_self]
  unfold mob at h ⊢
  rw [Bool.or_eq_false_iff, Bool.or_eq_false_iff, Bool.or_eq_false_iff] at h
  rw [e _ h.1.1.1, e _ h.1.1.2, e _ h.1.2, e _ h.2]
  rfl
theorem mrs_same {τ τ' : JS} {n : Nat} (h : jsame τ τ' n) : mrs τ' n = mrs τ n := by
  unfold mrs mr1
  rw [mcn_same _ h, mcn_same _ h, mcn_same _ h, mcn_same _ h]
theorem tK_fr {σ σ' τ τ' : JS} {n n' c c' : Nat} (hσ : ∀ a, 18 < a → a < 23 → σ' a = σ a) (hτ : ∀ a, 11 < a → a < 14 → τ' a = τ a) (hs : jsame τ τ' n) (hn : n ≤ n') (hc : c ≤ c') (h : tK σ τ n c) : tK σ' τ' n' c' := fun s hs4 => by
  rw [hσ 19 (by decide) (by decide), hσ 20 (by decide) (by decide), hσ 21 (by decide) (by decide), hσ 22 (by decide) (by decide), hτ 12 (by decide) (by decide), hτ 13 (by decide) (by decide)]
  rcases h s hs4 with h | ⟨h, f, m, h1, h2, h3, h4, h5, h6, h7⟩
  · exact Or.inl h
  · exact Or.inr ⟨h, f, m, by omega, by omega, h3, h4, h5, h6, fun r hr => by rw [h7 r hr, mvl_same _ _ (hs.lt h2)]⟩
theorem tL_fr {σ σ' τ τ' : JS} {n n' l a : Nat} (hσ : ∀ a, 22 < a → a < 26 → σ' a = σ a) (h1 : ∀ q, 2 < q → q < 6 → σ' 100 q = σ 100 q) (hτ : ∀ a, 13 < a → a < 16 → τ' a = τ a) (h2 : ∀ q, 6 < q → q < 10 → τ' 100 q = τ 100 q) (hs : jsame τ τ' n) (hn : n ≤ n') (h : tL σ τ n l a) : tL σ' τ' n' l a := by
  unfold tL
  rw [hσ 23 (by decide) (by decide), hσ 24 (by decide) (by decide), hσ 25 (by decide) (by decide), h1 3 (by decide) (by decide), h1 4 (by decide) (by decide), h1 5 (by decide) (by decide), hτ 14 (by decide) (by decide), hτ 15 (by decide) (by decide), h2 7 (by decide) (by decide), h2 8 (by decide) (by decide), h2 9 (by decide) (by decide)]
  obtain ⟨a1, a2, a3, a4, a5, a6, a7, a8, a9, a10, a11⟩ := h
  have hsa := hs.lt a9
  refine ⟨a1, a2, a3, fun i hi => ?_, a5, fun k hk => ?_, a7, a8, by omega, a10, ?_⟩
  · obtain ⟨k, k1, k2, k3, k4⟩ := a4 i hi
    exact ⟨k, k1, by omega, k3, k4⟩
  · have := a6 k hk
    omega
  · rcases a11 with ⟨b1, b2⟩ | ⟨b1, b2⟩
    · exact Or.inl ⟨b1, fun f r hf hr => by rw [b2 f r hf hr, mvl_same _ _ hsa]⟩
    · exact Or.inr ⟨b1, fun f r hf hr => by rw [b2 f r hf hr, mvl_same _ _ hsa, mtd_same _ _ a hsa a _ (Nat.le_refl _)]⟩
/-- the files, where rows stand and what is shown still holds -/
theorem tF_fr {σ σ' τ τ' : JS} {n n' c : Nat} (hn120 : n ≤ 120) (hσ : ∀ a, 25 < a → a < 29 → σ' a = σ a) (h1 : σ' 100 6 = σ 100 6) (hτ : ∀ a, 0 < a → a < 4 → τ' a = τ a) (h2 : τ' 100 1 = τ 100 1) (hs : jsame τ τ' n) (hn : n ≤ n') (hv : ∀ f : Nat, f < c → σ 27 f ≠ -1 → mob τ (nI f) n = false → mob τ' (nI f) n' = false ∧ ∀ r : Nat, r < 8 → mvl τ' (nI f) (nI r) n' = mvl τ (nI f) (nI r) n) (h : tF σ τ n c) : tF σ' τ' n' c := by
  obtain ⟨a1, a2, a3, a4, a5, a6⟩ := h
  refine ⟨h1.trans a1, h2.trans a2, a3, ?_, ?_, fun f hf => ?_⟩
  · rw [hσ 27 (by decide) (by decide), hσ 28 (by decide) (by decide), hτ 2 (by decide) (by decide), hτ 3 (by decide) (by decide)]
    exact a4
  · rw [hσ 26 (by decide) (by decide), hτ 1 (by decide) (by decide)]
    exact a5
  · unfold tS
    rw [hσ 27 (by decide) (by decide)]
    rcases a6 f hf with h | ⟨m, h3, h4, h5, h6⟩
    · exact Or.inl h
    · obtain ⟨g1, g2⟩ := hv f hf (fun z => neg_ne (x := -1) (by decide) m (by omega) (z.symm.trans h4)) h5
      exact Or.inr ⟨m, by omega, h4, g1, fun r hr hlt => by rw [hτ 1 (by decide) (by decide)] at hlt; rw [mvl_same _ _ (hs.lt h3), h6 r hr hlt, g2 r hr]⟩
theorem tD_fr {σ σ' τ τ' : JS} {n d w : Nat} (hσ : ∀ a, 15 < a → a < 19 → σ' a = σ a) (h1 : σ' 100 2 = σ 100 2) (hτ : ∀ a, 3 < a → a < 12 → τ' a = τ a) (h2 : τ' 100 6 = τ 100 6) (h : tD σ τ n d w) : tD σ' τ' n d w := by
  unfold tD tW
  rw [hσ 16 (by decide) (by decide), hσ 17 (by decide) (by decide), hσ 18 (by decide) (by decide), h1, h2, hτ 4 (by decide) (by decide), hτ 6 (by decide) (by decide), hτ 7 (by decide) (by decide), hτ 9 (by decide) (by decide), hτ 10 (by decide) (by decide), hτ 11 (by decide) (by decide)]
  exact h
theorem tP_fr {σ σ' τ τ' : JS} {n d : Nat} (hσ : σ' 16 = σ 16) (hτ : ∀ a, 3 < a → a < 10 → τ' a = τ a) (h : tP σ τ n d) : tP σ' τ' n d := fun f r hf hr hm => by
  rw [mlt_same _ _ (jsame_rows hτ n)] at hm
  rw [hσ, mvl_same _ _ (jsame_rows hτ n)]
  exact h f r hf hr hm
theorem tQ_fr {σ σ' τ τ' : JS} {n w : Nat} (hσ : ∀ a, 15 < a → a < 19 → σ' a = σ a) (hτ : ∀ a, 3 < a → a < 10 → τ' a = τ a) (h : tQ σ τ n w) : tQ σ' τ' n w := fun f r hf hr => by
  rw [hσ 16 (by decide) (by decide), mvl_same _ _ (jsame_rows hτ n), fw_cong (σ := σ) _ _ w (fun i _ => ⟨by rw [hσ 17 (by decide) (by decide)], by rw [hσ 18 (by decide) (by decide)]⟩)]
  exact h f r hf hr
theorem tUp_fr {σ σ' τ τ' : JS} {n w : Nat} (hσ : ∀ a, 15 < a → a < 19 → σ' a = σ a) (h1 : σ' 100 8 = σ 100 8) (hτ : ∀ a, 3 < a → a < 10 → τ' a = τ a) (h2 : τ' 100 5 = τ 100 5) (h : tUp σ τ n w) : tUp σ' τ' n w := by
  unfold tUp
  rw [h1, h2]
  rcases h with ⟨a, b, c⟩ | h
  · exact Or.inl ⟨a, b, tQ_fr hσ hτ c⟩
  · exact Or.inr h
theorem tR_fr {σ σ' τ τ' : JS} {n d : Nat} (h1 : σ' 100 1 = σ 100 1) (h2 : τ' 100 3 = τ 100 3) (hs : jsame τ τ' n) (h : tR σ τ n d) : tR σ' τ' n d := by
  unfold tR
  rw [h1, h2, mrs_same hs, mcy_same _ hs]
  obtain ⟨a1, a2, a3, a4, a5, a6⟩ := h
  exact ⟨a1, a2, a3, a4, a5, fun j hj => by rw [mcy_same _ hs]; exact a6 j hj⟩
/-- rows of neither side but those of copies, letters, files' numbers touched: what is the same stays -/
theorem tI_thr {σ τ : JS} {n c d w l a : Nat} (y : Int32) (h : tI σ τ n c d w l a) : tI σ (jw2 τ 100 0 y) n c d w l a := by
  obtain ⟨hA, hD, hP, hU, hF, hR, hK, hL, h7⟩ := h
  have hτ : ∀ a, a < 100 → jw2 τ 100 0 y a = τ a := fun a h => by unfold jw2; rw [if_neg (by omega)]
  have hs : jsame τ (jw2 τ 100 0 y) n := jsame_rows (fun a _ h => hτ a (by omega)) n
  exact ⟨tA_fr (fun _ _ _ => rfl) rfl (fun a _ h => hτ a (by omega)) rfl hA, tD_fr (fun _ _ _ => rfl) rfl (fun a _ h => hτ a (by omega)) rfl hD, tP_fr rfl (fun a _ h => hτ a (by omega)) hP, tUp_fr (fun _ _ _ => rfl) rfl (fun a _ h => hτ a (by omega)) rfl hU, tF_fr (tR_n hR).1 (fun _ _ _ => rfl) rfl (fun a _ h => hτ a (by omega)) rfl hs (Nat.le_refl _) (fun f _ _ hm => ⟨by rw [mob_same _ hs]; exact hm, fun r _ => mvl_same _ _ hs⟩) hF, tR_fr (σ := σ) (τ := τ) rfl rfl hs hR, tK_fr (fun _ _ _ => rfl) (fun a _ h => hτ a (by omega)) hs (Nat.le_refl _) (Nat.le_refl _) hK, tL_fr (fun _ _ _ => rfl) (fun _ _ _ => rfl) (fun a _ h => hτ a (by omega)) (fun q h _ => by rw [jw2_at, if_pos rfl, if_neg (by omega)]) hs (Nat.le_refl _) hL, h7⟩
theorem J_thr {σ τ : JS} (y : Int32) (h : JInv σ τ) : JInv σ (jw2 τ 100 0 y) := by
  obtain ⟨n, c, d, w, l, a, h⟩ := h
  exact ⟨n, c, d, w, l, a, tI_thr y h⟩
theorem thr_0 (τ : JS) (y : Int32) : jw2 τ 100 0 y 100 0 = y := by simp [jw2_at]
