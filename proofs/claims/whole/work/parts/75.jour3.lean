theorem H_addE (σ τ τ' : JS) (n j : Nat) (k : Int32) (hn : σ 100 0 = nI n) (h : n < 120) (hj : j < 4) (hC : tC σ τ n) (hs : jsame τ τ' n) (h4 : ¬ τ' 4 (n + 1) = 1) (h5 : τ' 5 (n + 1) = nI j) : mJ_addEnd σ k (nI j) = some (hap σ n k (nI j) (σ 8 (n + 1)) (σ 9 (n + 1)) (σ 10 (n + 1)) j 0 0 0 (nI (mbo τ' (n + 1)))) := by
  have hw : ∀ (σ : JS) (a : Nat) (x : Int32) (K : JS → Option JS), jwr σ a 121 (nI (n + 1)) x K = K (jw2 σ a (n + 1) x) := fun σ a x K => jwr_n _ _ _ _ _ _ (by omega) (by decide)
  have hw4 : ∀ (σ : JS) (a : Nat) (x : Int32) (K : JS → Option JS), jwr σ a 4 (nI j) x K = K (jw2 σ a j x) := fun σ a x K => jwr_n _ _ _ _ _ _ (by omega) (by decide)
  have e0 : jw2 σ 100 0 (nI (n + 1)) 100 0 = nI (n + 1) := by simp [jw2_at]
  unfold mJ_addEnd
  rw [jst_n, hn, nI_1, e0, hw]
  rw [show (jw2 (jw2 σ 100 0 (nI (n + 1))) 6 (n + 1) k) 100 0 = nI (n + 1) from e0, hw, hw4, hw4, hw4]
  rw [H_note (jw2 (jw2 (jw2 (jw2 (jw2 (jw2 σ 100 0 (nI (n + 1))) 6 (n + 1) k) 7 (n + 1) (nI j)) 12 j 0) 13 j 0) 14 j 0) τ' (n + 1) (n + 1) e0 (by omega) ?_, jbn_s]
  · have s8 : jw2 (jw2 (jw2 (jw2 σ 100 0 (nI (n + 1))) 6 (n + 1) k) 7 (n + 1) (nI j)) 8 (n + 1) (σ 8 (n + 1)) = jw2 (jw2 (jw2 σ 100 0 (nI (n + 1))) 6 (n + 1) k) 7 (n + 1) (nI j) := jw2_self (jw2 (jw2 (jw2 σ 100 0 (nI (n + 1))) 6 (n + 1) k) 7 (n + 1) (nI j)) 8 (n + 1)
    have s9 : jw2 (jw2 (jw2 (jw2 σ 100 0 (nI (n + 1))) 6 (n + 1) k) 7 (n + 1) (nI j)) 9 (n + 1) (σ 9 (n + 1)) = jw2 (jw2 (jw2 σ 100 0 (nI (n + 1))) 6 (n + 1) k) 7 (n + 1) (nI j) := jw2_self (jw2 (jw2 (jw2 σ 100 0 (nI (n + 1))) 6 (n + 1) k) 7 (n + 1) (nI j)) 9 (n + 1)
    have s10 : jw2 (jw2 (jw2 (jw2 σ 100 0 (nI (n + 1))) 6 (n + 1) k) 7 (n + 1) (nI j)) 10 (n + 1) (σ 10 (n + 1)) = jw2 (jw2 (jw2 σ 100 0 (nI (n + 1))) 6 (n + 1) k) 7 (n + 1) (nI j) := jw2_self (jw2 (jw2 (jw2 σ 100 0 (nI (n + 1))) 6 (n + 1) k) 7 (n + 1) (nI j)) 10 (n + 1)
    unfold hap
    rw [s8, s9, s10]
  · intro i hi
    rw [jw2_at, if_pos rfl, mcf_end hs (nI i) h4]
    by_cases hij : i = j
    · rw [if_pos hij, hij, if_pos h5]; rfl
    · rw [if_neg hij, if_neg (fun z => hij (nI_inj (by omega) (by omega) (h5.symm.trans z)).symm), ← (hC i hi).2.2]
      rfl
theorem tE_old {σ τ σ' τ' : JS} {n c k : Nat} (hs : jsame τ τ' n) (hσ : ∀ a, a < 12 → σ' a k = σ a k) (h1 : 1 ≤ k) (h2 : k ≤ n) (h : tE σ τ c k) : tE σ' τ' c k := by
  obtain ⟨a4, a5, a6, a7, a8, a9⟩ := hs k h1 h2
  obtain ⟨b1, b2, b3, b4⟩ := h
  unfold tE
  rw [hσ 6 (by omega), hσ 7 (by omega), hσ 8 (by omega), hσ 9 (by omega), hσ 10 (by omega), a4, a5, a6, a7, a8, a9]
  rw [mvl_same _ _ (hs.lt (show k - 1 ≤ n by omega))]
  exact ⟨b1, b2, b3, b4⟩
theorem tJ_put {σ τ : JS} {n c j f r : Nat} {b v : Int32} {i : Nat} {c12 c13 c14 o : Int32} (hJ : tJ σ τ n c) (hj : j < 4) (hf : f < c) (hr : r < 8) (hb : b = mvl τ (nI f) (nI r) n) : tJ (hap σ n 1 (nI j) (nI (8 * f + r)) b v i c12 c13 c14 o) (jap τ n 1 (nI j) (nI f) (nI r) b v) (n + 1) c := by
  obtain ⟨h1, h2, h3⟩ := hJ
  refine ⟨by rw [hap_100, if_pos rfl], by rw [jap_100, if_pos rfl], fun k k1 k2 => ?_⟩
  by_cases hk : k = n + 1
  · subst hk
    obtain ⟨a1, a2, a3, a4, a5, a6⟩ := hap_new σ n 1 (nI j) (nI (8 * f + r)) b v i c12 c13 c14 o
    obtain ⟨d1, d2, d3, d4, d5, d6⟩ := jap_new τ n 1 (nI j) (nI f) (nI r) b v
    refine ⟨by rw [a1, d1], by rw [a2, d2], ⟨j, hj, d2⟩, fun _ => ⟨by rw [a4, d5], by rw [a5, d6], ?_, f, r, hf, hr, d3, d4, a3⟩⟩
    rw [d5, d3, d4, Nat.add_sub_cancel, mvl_same _ _ (jap_same τ n 1 (nI j) (nI f) (nI r) b v), hb]
  · exact tE_old (jap_same τ n 1 (nI j) (nI f) (nI r) b v) (fun a ha => hap_old _ _ _ _ _ _ _ _ _ _ _ _ a k hk ha) k1 (by omega) (h3 k k1 (by omega))
theorem tJ_end {σ τ : JS} {n c j : Nat} {k x b v : Int32} {i : Nat} {c12 c13 c14 o : Int32} (hJ : tJ σ τ n c) (hj : j < 4) (hk : k ≠ 1) : tJ (hap σ n k (nI j) x b v i c12 c13 c14 o) (jap τ n k (nI j) 0 0 0 0) (n + 1) c := by
  obtain ⟨h1, h2, h3⟩ := hJ
  refine ⟨by rw [hap_100, if_pos rfl], by rw [jap_100, if_pos rfl], fun q k1 k2 => ?_⟩
  by_cases hq : q = n + 1
  · subst hq
    obtain ⟨a1, a2, a3, a4, a5, a6⟩ := hap_new σ n k (nI j) x b v i c12 c13 c14 o
    obtain ⟨d1, d2, d3, d4, d5, d6⟩ := jap_new τ n k (nI j) 0 0 0 0
    exact ⟨by rw [a1, d1], by rw [a2, d2], ⟨j, hj, d2⟩, fun z => absurd (d1.symm.trans z) hk⟩
  · exact tE_old (jap_same τ n k (nI j) 0 0 0 0) (fun a ha => hap_old _ _ _ _ _ _ _ _ _ _ _ _ a q hq ha) k1 (by omega) (h3 q k1 (by omega))
theorem tC_put {σ τ τ' : JS} {n j f : Nat} {k x b v : Int32} {o : Int32} (hC : tC σ τ n) (hj : j < 4) (hf : f < 3) (hs : jsame τ τ' n) (h4 : τ' 4 (n + 1) = 1) (h5 : τ' 5 (n + 1) = nI j) (h6 : τ' 6 (n + 1) = nI f) : tC (hap σ n k (nI j) x b v j (nI (mcy τ' (nI j) (n + 1))) (nI (mcn τ' (nI j) (n + 1))) (nI (mcf τ' (nI j) (n + 1))) o) τ' (n + 1) := by
  intro i hi
  obtain ⟨a1, a2, a3⟩ := hap_cyc σ n k (nI j) x b v j (nI (mcy τ' (nI j) (n + 1))) (nI (mcn τ' (nI j) (n + 1))) (nI (mcf τ' (nI j) (n + 1))) o i
  rw [a1, a2, a3]
  by_cases hij : i = j
  · subst hij
    rw [if_pos rfl, if_pos rfl, if_pos rfl]
    exact ⟨rfl, rfl, rfl⟩
  · have hz : ¬ τ' 5 (n + 1) = nI i := fun z => hij (nI_inj (by omega) (by omega) (h5.symm.trans z)).symm
    rw [if_neg hij, if_neg hij, if_neg hij, mcy_new hs, mcn_new hs, mcf_new hs (nI i) f hf h6 h4, if_neg hz, if_neg hz, if_neg hz]
    exact hC i hi
theorem tC_end {σ τ τ' : JS} {n j : Nat} {k x b v : Int32} {o : Int32} (hC : tC σ τ n) (hj : j < 4) (hs : jsame τ τ' n) (h4 : ¬ τ' 4 (n + 1) = 1) (h5 : τ' 5 (n + 1) = nI j) : tC (hap σ n k (nI j) x b v j 0 0 0 o) τ' (n + 1) := by
  intro i hi
  obtain ⟨a1, a2, a3⟩ := hap_cyc σ n k (nI j) x b v j 0 0 0 o i
  rw [a1, a2, a3, mcy_new hs, mcn_new hs, mcf_end hs (nI i) h4]
  by_cases hij : i = j
  · subst hij
    rw [if_pos rfl, if_pos rfl, if_pos rfl, if_pos h5, if_pos h5, if_pos h5, if_neg h4, if_neg h4]
    exact ⟨rfl, rfl, rfl⟩
  · have hz : ¬ τ' 5 (n + 1) = nI i := fun z => hij (nI_inj (by omega) (by omega) (h5.symm.trans z)).symm
    rw [if_neg hij, if_neg hij, if_neg hij, if_neg hz, if_neg hz, if_neg hz]
    exact hC i hi
theorem tO_new {σ τ τ' : JS} {n : Nat} {k j x b v : Int32} {i : Nat} {c12 c13 c14 : Int32} (hO : tO σ τ n) (hs : jsame τ τ' n) : tO (hap σ n k j x b v i c12 c13 c14 (nI (mbo τ' (n + 1)))) τ' (n + 1) := by
  intro q hq
  by_cases hz : q = n + 1
  · subst hz
    exact (hap_new σ n k j x b v i c12 c13 c14 (nI (mbo τ' (n + 1)))).2.2.2.2.2
  · rw [hap_old _ _ _ _ _ _ _ _ _ _ _ _ 11 q hz (by omega), hO q (by omega), mbo_same (hs.lt (show q ≤ n by omega))]
