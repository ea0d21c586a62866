theorem jw2_self (σ : JS) (k j : Nat) : jw2 σ k j (σ k j) = σ := by
  funext a b
  rw [jw2_at]
  by_cases h : a = k
  · rw [if_pos h]
    by_cases h2 : b = j
    · rw [if_pos h2, h, h2]
    · rw [if_neg h2]
  · rw [if_neg h]
theorem hap_row (σ : JS) (n : Nat) (k j x b v : Int32) (i : Nat) (c12 c13 c14 o : Int32) (a : Nat) (h : a < 6 ∨ 14 < a) (h2 : a ≠ 100) : hap σ n k j x b v i c12 c13 c14 o a = σ a := by
  unfold hap jw2
  rw [if_neg (by omega), if_neg (by omega), if_neg (by omega), if_neg (by omega), if_neg (by omega), if_neg (by omega), if_neg (by omega), if_neg (by omega), if_neg (by omega), if_neg (by omega)]
theorem hap_100 (σ : JS) (n : Nat) (k j x b v : Int32) (i : Nat) (c12 c13 c14 o : Int32) (q : Nat) : hap σ n k j x b v i c12 c13 c14 o 100 q = if q = 0 then nI (n + 1) else σ 100 q := by
  unfold hap
  simp only [jw2_at]
  simp
theorem hap_old (σ : JS) (n : Nat) (k j x b v : Int32) (i : Nat) (c12 c13 c14 o : Int32) (a q : Nat) (h : q ≠ n + 1) (h2 : a < 12) : hap σ n k j x b v i c12 c13 c14 o a q = σ a q := by
  unfold hap
  simp only [jw2_at, if_neg h, if_neg (show ¬ a = 100 by omega), if_neg (show ¬ a = 12 by omega), if_neg (show ¬ a = 13 by omega), if_neg (show ¬ a = 14 by omega), ite_self]
theorem hap_new (σ : JS) (n : Nat) (k j x b v : Int32) (i : Nat) (c12 c13 c14 o : Int32) : hap σ n k j x b v i c12 c13 c14 o 6 (n + 1) = k ∧ hap σ n k j x b v i c12 c13 c14 o 7 (n + 1) = j ∧ hap σ n k j x b v i c12 c13 c14 o 8 (n + 1) = x ∧ hap σ n k j x b v i c12 c13 c14 o 9 (n + 1) = b ∧ hap σ n k j x b v i c12 c13 c14 o 10 (n + 1) = v ∧ hap σ n k j x b v i c12 c13 c14 o 11 (n + 1) = o := by
  unfold hap
  simp only [jw2_at]
  simp
theorem hap_cyc (σ : JS) (n : Nat) (k j x b v : Int32) (i : Nat) (c12 c13 c14 o : Int32) (q : Nat) : hap σ n k j x b v i c12 c13 c14 o 12 q = (if q = i then c12 else σ 12 q) ∧ hap σ n k j x b v i c12 c13 c14 o 13 q = (if q = i then c13 else σ 13 q) ∧ hap σ n k j x b v i c12 c13 c14 o 14 q = (if q = i then c14 else σ 14 q) := by
  unfold hap
  simp only [jw2_at]
  simp
/-! the tie of the journals -/
def tE (σ τ : JS) (c k : Nat) : Prop := σ 6 k = τ 4 k ∧ σ 7 k = τ 5 k ∧ (∃ j : Nat, j < 4 ∧ τ 5 k = nI j) ∧ (τ 4 k = 1 → σ 9 k = τ 8 k ∧ σ 10 k = τ 9 k ∧ τ 8 k = mvl τ (τ 6 k) (τ 7 k) (k - 1) ∧ ∃ f r : Nat, f < c ∧ r < 8 ∧ τ 6 k = nI f ∧ τ 7 k = nI r ∧ σ 8 k = nI (8 * f + r))
def tJ (σ τ : JS) (n c : Nat) : Prop := σ 100 0 = nI n ∧ τ 100 2 = nI n ∧ ∀ k, 1 ≤ k → k ≤ n → tE σ τ c k
def tC (σ τ : JS) (n : Nat) : Prop := ∀ j : Nat, j < 4 → σ 12 j = nI (mcy τ (nI j) n) ∧ σ 13 j = nI (mcn τ (nI j) n) ∧ σ 14 j = nI (mcf τ (nI j) n)
def tO (σ τ : JS) (n : Nat) : Prop := ∀ k, k ≤ n → σ 11 k = nI (mbo τ k)
def tV (σ τ : JS) (n : Nat) : Prop := ∀ f r : Nat, f < 3 → r < 8 → σ 15 (8 * f + r) = mvl τ (nI f) (nI r) n
theorem mcf_same {τ τ' : JS} (j : Int32) {n : Nat} (h : jsame τ τ' n) : mcf τ' j n = mcf τ j n := by
  have e : ∀ f : Int32, mce τ' j (mof τ' f) n = mce τ j (mof τ f) n := fun f => mce_same j h (fun k h1 h2 => by unfold mof; rw [(h k h1 h2).2.2.1])
  unfold mcf
  rw [e, e, e]
theorem mob_same {τ τ' : JS} (f : Int32) {n : Nat} (h : jsame τ τ' n) : mob τ' f n = mob τ f n := by
  have e : ∀ j : Int32, mce τ' j (mof τ' f) n = mce τ j (mof τ f) n := fun j => mce_same j h (fun k h1 h2 => by unfold mof; rw [(h k h1 h2).2.2.1])
  unfold mob
  rw [e, e, e, e]
theorem mbo_same {τ τ' : JS} {n : Nat} (h : jsame τ τ' n) : mbo τ' n = mbo τ n := by
  unfold mbo
  rw [mob_same _ h, mob_same _ h, mob_same _ h]
/-- the cycles behind one more entry -/
theorem mcy_new {τ τ' : JS} {n : Nat} (h : jsame τ τ' n) (j : Int32) : mcy τ' j (n + 1) = if τ' 5 (n + 1) = j then (if τ' 4 (n + 1) = 1 then (if mcy τ j n = 0 then n + 1 else mcy τ j n) else 0) else mcy τ j n := by
  rw [mcy, mcy_same j h]
theorem mcn_new {τ τ' : JS} {n : Nat} (h : jsame τ τ' n) (j : Int32) : mcn τ' j (n + 1) = if τ' 5 (n + 1) = j then (if τ' 4 (n + 1) = 1 then mcn τ j n + 1 else 0) else mcn τ j n := by
  rw [mcn, mcn_same j h]
theorem mce_new {τ τ' : JS} {n : Nat} (h : jsame τ τ' n) (j f : Int32) : mce τ' j (mof τ' f) (n + 1) = if τ' 5 (n + 1) = j then (if τ' 4 (n + 1) = 1 then (mce τ j (mof τ f) n || decide (τ' 6 (n + 1) = f)) else false) else mce τ j (mof τ f) n := by
  have e : mce τ' j (mof τ' f) n = mce τ j (mof τ f) n := mce_same j h (fun k h1 h2 => by unfold mof; rw [(h k h1 h2).2.2.1])
  rw [mce, e]
  rfl
theorem mvl_new {τ τ' : JS} {n : Nat} (h : jsame τ τ' n) (f r : Int32) : mvl τ' f r (n + 1) = if τ' 4 (n + 1) = 1 ∧ τ' 6 (n + 1) = f ∧ τ' 7 (n + 1) = r then τ' 9 (n + 1) else mvl τ f r n := by
  rw [mvl, mvl_same f r h]
theorem mcf_new {τ τ' : JS} {n : Nat} (h : jsame τ τ' n) (j : Int32) (f : Nat) (hf : f < 3) (h6 : τ' 6 (n + 1) = nI f) (h4 : τ' 4 (n + 1) = 1) : nI (mcf τ' j (n + 1)) = if τ' 5 (n + 1) = j then nI (mcf τ j n) ||| ((1 : Int32) <<< (nI f &&& 31)) else nI (mcf τ j n) := by
  unfold mcf
  rw [mce_new h, mce_new h, mce_new h]
  by_cases h5 : τ' 5 (n + 1) = j
  · simp only [if_pos h5, if_pos h4, h6]
    rw [mb_bit _ _ _ f hf]
    have e : ∀ g : Nat, g < 3 → decide (nI f = nI g) = decide (f = g) := fun g hg => by
      by_cases hz : f = g
      · rw [hz]; simp
      · rw [decide_eq_false hz, decide_eq_false (fun z => hz (nI_inj (by omega) (by omega) z))]
    rw [e 0 (by omega), e 1 (by omega), e 2 (by omega)]
  · simp only [if_neg h5]
theorem mcf_end {τ τ' : JS} {n : Nat} (h : jsame τ τ' n) (j : Int32) (h4 : ¬ τ' 4 (n + 1) = 1) : mcf τ' j (n + 1) = if τ' 5 (n + 1) = j then 0 else mcf τ j n := by
  unfold mcf
  rw [mce_new h, mce_new h, mce_new h]
  by_cases h5 : τ' 5 (n + 1) = j
  · simp only [if_pos h5, if_neg h4]; rfl
  · simp only [if_neg h5]
theorem H_addC (σ τ τ' : JS) (n j f r : Nat) (b v : Int32) (hn : σ 100 0 = nI n) (h : n < 120) (hj : j < 4) (hf : f < 3) (hr : r < 8) (hC : tC σ τ n) (hs : jsame τ τ' n) (h4 : τ' 4 (n + 1) = 1) (h5 : τ' 5 (n + 1) = nI j) (h6 : τ' 6 (n + 1) = nI f) : mJ_addChange σ (nI j) (nI (8 * f + r)) b v = some (hap σ n 1 (nI j) (nI (8 * f + r)) b v j (nI (mcy τ' (nI j) (n + 1))) (nI (mcn τ' (nI j) (n + 1))) (nI (mcf τ' (nI j) (n + 1))) (nI (mbo τ' (n + 1)))) := by
  obtain ⟨c12, c13, c14⟩ := hC j hj
  have hle := mcy_le τ (nI j) n
  have hw : ∀ (σ : JS) (a : Nat) (x : Int32) (K : JS → Option JS), jwr σ a 121 (nI (n + 1)) x K = K (jw2 σ a (n + 1) x) := fun σ a x K => jwr_n _ _ _ _ _ _ (by omega) (by decide)
  have hw4 : ∀ (σ : JS) (a : Nat) (x : Int32) (K : JS → Option JS), jwr σ a 4 (nI j) x K = K (jw2 σ a j x) := fun σ a x K => jwr_n _ _ _ _ _ _ (by omega) (by decide)
  have hr4 : ∀ (σ : JS) (a : Nat) (K : Int32 → Option JS), jrd σ a 4 (nI j) K = K (σ a j) := fun σ a K => jrd_n _ _ _ _ _ (by omega) (by decide)
  have e0 : jw2 σ 100 0 (nI (n + 1)) 100 0 = nI (n + 1) := by simp [jw2_at]
  have hdiv : nI (8 * f + r) / (8 : Int32) = nI f := by
    rw [l8, pk_div (by omega) (by omega) (by omega)]
    congr 1; omega
  have key : ∀ X : JS, X = (jw2 (jw2 (jw2 (jw2 (jw2 (jw2 (jw2 σ 100 0 (nI (n + 1))) 6 (n + 1) 1) 7 (n + 1) (nI j)) 8 (n + 1) (nI (8 * f + r))) 9 (n + 1) b) 10 (n + 1) v) 12 j (nI (mcy τ' (nI j) (n + 1)))) → mJ_addChange_J80 X (nI j) (nI (8 * f + r)) = some (hap σ n 1 (nI j) (nI (8 * f + r)) b v j (nI (mcy τ' (nI j) (n + 1))) (nI (mcn τ' (nI j) (n + 1))) (nI (mcf τ' (nI j) (n + 1))) (nI (mbo τ' (n + 1)))) := by
    intro X hX
    have x13 : X 13 = σ 13 := by rw [hX]; rfl
    have x14 : X 14 = σ 14 := by rw [hX]; rfl
    have x100 : X 100 0 = nI (n + 1) := by rw [hX]; exact e0
    unfold mJ_addChange_J80 mH_fileOf
    rw [hr4, hw4, hr4, jbn_s, hw4, x13, c13, nI_1]
    rw [show jw2 X 13 j (nI (mcn τ (nI j) n + 1)) 14 j = σ 14 j from by rw [← x14]; rfl, c14, hdiv]
    have em : nI (mcn τ (nI j) n + 1) = nI (mcn τ' (nI j) (n + 1)) := by rw [mcn_new hs, if_pos h5, if_pos h4]
    have ef : nI (mcf τ (nI j) n) ||| ((1 : Int32) <<< (nI f &&& 31)) = nI (mcf τ' (nI j) (n + 1)) := by rw [mcf_new hs (nI j) f hf h6 h4, if_pos h5]
    rw [em, ef, H_note (jw2 (jw2 X 13 j (nI (mcn τ' (nI j) (n + 1)))) 14 j (nI (mcf τ' (nI j) (n + 1)))) τ' (n + 1) (n + 1) x100 (by omega) ?_, jbn_s, hX]
    · rfl
    · intro i hi
      rw [jw2_at, if_pos rfl]
      by_cases hij : i = j
      · rw [if_pos hij, hij]
      · rw [if_neg hij, jw2_at, if_neg (by decide), x14, (hC i hi).2.2, mcf_new hs (nI i) f hf h6 h4, if_neg (fun z => hij (nI_inj (by omega) (by omega) (h5.symm.trans z)).symm)]
  unfold mJ_addChange
  rw [jst_n, hn, nI_1, e0, hw]
  rw [show (jw2 (jw2 σ 100 0 (nI (n + 1))) 6 (n + 1) 1) 100 0 = nI (n + 1) from e0, hw]
  rw [show (jw2 (jw2 (jw2 σ 100 0 (nI (n + 1))) 6 (n + 1) 1) 7 (n + 1) (nI j)) 100 0 = nI (n + 1) from e0, hw]
  rw [show (jw2 (jw2 (jw2 (jw2 σ 100 0 (nI (n + 1))) 6 (n + 1) 1) 7 (n + 1) (nI j)) 8 (n + 1) (nI (8 * f + r))) 100 0 = nI (n + 1) from e0, hw]
  rw [show (jw2 (jw2 (jw2 (jw2 (jw2 σ 100 0 (nI (n + 1))) 6 (n + 1) 1) 7 (n + 1) (nI j)) 8 (n + 1) (nI (8 * f + r))) 9 (n + 1) b) 100 0 = nI (n + 1) from e0, hw, hr4]
  have y12 : (jw2 (jw2 (jw2 (jw2 (jw2 (jw2 σ 100 0 (nI (n + 1))) 6 (n + 1) 1) 7 (n + 1) (nI j)) 8 (n + 1) (nI (8 * f + r))) 9 (n + 1) b) 10 (n + 1) v) 12 j = σ 12 j := rfl
  rw [y12, c12]
  by_cases hz : mcy τ (nI j) n = 0
  · rw [hz, if_pos (by decide), hw4]
    refine key _ ?_
    rw [show (jw2 (jw2 (jw2 (jw2 (jw2 (jw2 σ 100 0 (nI (n + 1))) 6 (n + 1) 1) 7 (n + 1) (nI j)) 8 (n + 1) (nI (8 * f + r))) 9 (n + 1) b) 10 (n + 1) v) 100 0 = nI (n + 1) from e0, mcy_new hs, if_pos h5, if_pos h4, if_pos hz]
  · rw [if_neg (nI_ne0 (by omega) (by omega))]
    refine key _ ?_
    rw [mcy_new hs, if_pos h5, if_pos h4, if_neg hz, ← c12, ← y12, jw2_self]
