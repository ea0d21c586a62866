/-! a change put on both sides -/
def tA (σ τ : JS) (n c : Nat) : Prop := tJ σ τ n c ∧ tC σ τ n ∧ tO σ τ n ∧ tV σ τ n
def tX (σ τ : JS) (n c d w : Nat) : Prop := tA σ τ n c ∧ tD σ τ n d w ∧ tP σ τ n d ∧ tQ σ τ n w
theorem jsame_rows {τ τ' : JS} (h : ∀ a, 3 < a → a < 10 → τ' a = τ a) (n : Nat) : jsame τ τ' n := fun k _ _ => by
  rw [h 4 (by decide) (by decide), h 5 (by decide) (by decide), h 6 (by decide) (by decide), h 7 (by decide) (by decide), h 8 (by decide) (by decide), h 9 (by decide) (by decide)]
  exact ⟨rfl, rfl, rfl, rfl, rfl, rfl⟩
theorem tA_fr {σ σ' τ τ' : JS} {n c : Nat} (hσ : ∀ a, 5 < a → a < 16 → σ' a = σ a) (h0 : σ' 100 0 = σ 100 0) (hτ : ∀ a, 3 < a → a < 10 → τ' a = τ a) (h2 : τ' 100 2 = τ 100 2) (h : tA σ τ n c) : tA σ' τ' n c := by
  obtain ⟨⟨a1, a2, a3⟩, hC, hO, hV⟩ := h
  have hs := fun m => jsame_rows hτ m
  refine ⟨⟨h0.trans a1, h2.trans a2, fun k k1 k2 => ?_⟩, fun j hj => ?_, fun k hk => ?_, fun f r hf hr => ?_⟩
  · obtain ⟨b1, b2, b3, b4⟩ := a3 k k1 k2
    unfold tE
    rw [hσ 6 (by decide) (by decide), hσ 7 (by decide) (by decide), hσ 8 (by decide) (by decide), hσ 9 (by decide) (by decide), hσ 10 (by decide) (by decide), hτ 4 (by decide) (by decide), hτ 5 (by decide) (by decide), hτ 6 (by decide) (by decide), hτ 7 (by decide) (by decide), hτ 8 (by decide) (by decide), hτ 9 (by decide) (by decide), mvl_same _ _ (hs _)]
    exact ⟨b1, b2, b3, b4⟩
  · rw [hσ 12 (by decide) (by decide), hσ 13 (by decide) (by decide), hσ 14 (by decide) (by decide), mcy_same _ (hs _), mcn_same _ (hs _), mcf_same _ (hs _)]
    exact hC j hj
  · rw [hσ 11 (by decide) (by decide), mbo_same (hs _)]
    exact hO k hk
  · rw [hσ 15 (by decide) (by decide), mvl_same _ _ (hs _)]
    exact hV f r hf hr
theorem fw_cong {σ σ' : JS} (x : Nat) (v : Int32) : ∀ m, (∀ i, i < m → σ' 17 i = σ 17 i ∧ σ' 18 i = σ 18 i) → fw σ' x m v = fw σ x m v
  | 0, _ => rfl
  | m + 1, h => by
    rw [fw, fw, (h m (by omega)).1, (h m (by omega)).2, fw_cong x v m (fun i hi => h i (by omega))]
/-- the change that waits last -/
def hwt (σ : JS) (w x : Nat) (v : Int32) : JS := jw2 (jw2 (jw2 σ 17 w (nI x)) 18 w v) 100 2 (nI (w + 1))
def mwt (τ : JS) (w n : Nat) : JS := jw2 (jw2 τ 11 w (nI n)) 100 6 (nI (w + 1))
theorem t_wait {σ τ : JS} {n d w f r : Nat} {v : Int32} (hd : 8 * d ≤ n) (hw : w < 24) (hD : tD σ τ (n + 1) d w) (hP : tP σ τ (n + 1) d) (hQ : tQ σ τ n w) (hf : f < 3) (hr : r < 8) (h4 : τ 4 (n + 1) = 1) (h6 : τ 6 (n + 1) = nI f) (h7 : τ 7 (n + 1) = nI r) (h9 : τ 9 (n + 1) = v) : tD (hwt σ w (8 * f + r) v) (mwt τ w (n + 1)) (n + 1) d (w + 1) ∧ tP (hwt σ w (8 * f + r) v) (mwt τ w (n + 1)) (n + 1) d ∧ tQ (hwt σ w (8 * f + r) v) (mwt τ w (n + 1)) (n + 1) (w + 1) := by
  obtain ⟨b1, b2, b3, b4, b5⟩ := hD
  have hs : ∀ m, jsame τ (mwt τ w (n + 1)) m := fun m k _ _ => ⟨rfl, rfl, rfl, rfl, rfl, rfl⟩
  have w17 : ∀ i, hwt σ w (8 * f + r) v 17 i = if i = w then nI (8 * f + r) else σ 17 i := fun i => by
    unfold hwt
    simp only [jw2_at]
    simp
  have w18 : ∀ i, hwt σ w (8 * f + r) v 18 i = if i = w then v else σ 18 i := fun i => by
    unfold hwt
    simp only [jw2_at]
    simp
  have w11 : ∀ i, mwt τ w (n + 1) 11 i = if i = w then nI (n + 1) else τ 11 i := fun i => by
    unfold mwt
    simp only [jw2_at]
    simp
  refine ⟨⟨by unfold hwt; simp [jw2_at], by unfold mwt; simp [jw2_at], by omega, b4, fun i hi => ?_⟩, fun f' r' hf' hr' hm => ?_, fun f' r' hf' hr' => ?_⟩
  · by_cases hiw : i = w
    · subst hiw
      refine ⟨n + 1, f, r, by rw [w11, if_pos rfl], by omega, Nat.le_refl _, h4, hf, hr, h6, h7, by rw [w17, if_pos rfl], by rw [w18, if_pos rfl]; exact h9.symm⟩
    · obtain ⟨k, f', r', a1, a2, a3, a4, a5, a6, a7, a8, a9, a10⟩ := b5 i (by omega)
      exact ⟨k, f', r', by rw [w11, if_neg hiw]; exact a1, a2, a3, a4, a5, a6, a7, a8, by rw [w17, if_neg hiw]; exact a9, by rw [w18, if_neg hiw]; exact a10⟩
  · rw [mlt_same _ _ (hs _)] at hm
    rw [mvl_same _ _ (hs _)]
    exact hP f' r' hf' hr' hm
  · rw [mvl_same _ _ (hs _), fw, w17, w18, if_pos rfl, if_pos rfl, mvl, h4, h6, h7, h9]
    by_cases hz : 8 * f + r = 8 * f' + r'
    · have e1 : f = f' := by omega
      have e2 : r = r' := by omega
      subst e1; subst e2
      rw [if_pos rfl, if_pos ⟨rfl, rfl, rfl⟩]
    · rw [if_neg (fun z => hz (nI_inj (by omega) (by omega) z)), if_neg (fun z => hz (by rw [nI_inj (by omega) (by omega) z.2.1, nI_inj (by omega) (by omega) z.2.2]))]
      rw [fw_cong (σ := σ) _ _ w (fun i hi => ⟨by rw [w17, if_neg (by omega)], by rw [w18, if_neg (by omega)]⟩)]
      exact hQ f' r' hf' hr'
theorem t_put {σ τ : JS} {n c d w j f r : Nat} (v : Int32) (hc : c ≤ 3) (hd : 8 * d ≤ n) (hn : n < 120) (hX : tX σ τ n c d w) (hj : j < 4) (hf : f < c) (hr : r < 8) : ∃ (σ' τ' : JS) (w' : Nat), mH_writeChange σ (nI j) (nI (8 * f + r)) v = some σ' ∧ mM_put τ (nI j) (nI f) (nI r) v = some τ' ∧ tX σ' τ' (n + 1) c d w' ∧ (∀ a, 18 < a → a ≠ 27 → a ≠ 100 → σ' a = σ a) ∧ (∀ q, q ≠ 0 → q ≠ 2 → σ' 100 q = σ 100 q) ∧ (∀ x, σ' 27 x = if j ≠ 3 ∧ x = f then -1 else σ 27 x) ∧ (∀ a, (a < 4 ∨ 11 < a) → a ≠ 100 → τ' a = τ a) ∧ (∀ q, q ≠ 2 → q ≠ 6 → τ' 100 q = τ 100 q) ∧ jsame τ τ' n ∧ τ' 4 (n + 1) = 1 ∧ τ' 5 (n + 1) = nI j ∧ τ' 6 (n + 1) = nI f ∧ τ' 7 (n + 1) = nI r ∧ τ' 9 (n + 1) = v := by
  obtain ⟨⟨hJ, hC, hO, hV⟩, hD, hP, hQ⟩ := hX
  have hf3 : f < 3 := by omega
  have v15 := hV f r hf3 hr
  have n1 := hJ.1
  have n2 := hJ.2.1
  obtain ⟨d1, d2, d3, d4, d5, d6⟩ := jap_new τ n 1 (nI j) (nI f) (nI r) (mvl τ (nI f) (nI r) n) v
  have hs := jap_same τ n 1 (nI j) (nI f) (nI r) (mvl τ (nI f) (nI r) n) v
  have hadd := H_addC σ τ (jap τ n 1 (nI j) (nI f) (nI r) (mvl τ (nI f) (nI r) n) v) n j f r (mvl τ (nI f) (nI r) n) v n1 hn hj hf3 hr hC hs d1 d2 d3
  have hJ1 := tJ_put (v := v) (i := j) (c12 := nI (mcy (jap τ n 1 (nI j) (nI f) (nI r) (mvl τ (nI f) (nI r) n) v) (nI j) (n + 1))) (c13 := nI (mcn (jap τ n 1 (nI j) (nI f) (nI r) (mvl τ (nI f) (nI r) n) v) (nI j) (n + 1))) (c14 := nI (mcf (jap τ n 1 (nI j) (nI f) (nI r) (mvl τ (nI f) (nI r) n) v) (nI j) (n + 1))) (o := nI (mbo (jap τ n 1 (nI j) (nI f) (nI r) (mvl τ (nI f) (nI r) n) v) (n + 1))) hJ hj hf hr rfl
  have hC1 := tC_put (k := 1) (x := nI (8 * f + r)) (b := mvl τ (nI f) (nI r) n) (v := v) (o := nI (mbo (jap τ n 1 (nI j) (nI f) (nI r) (mvl τ (nI f) (nI r) n) v) (n + 1))) hC hj hf3 hs d1 d2 d3
  have hO1 := tO_new (k := 1) (j := nI j) (x := nI (8 * f + r)) (b := mvl τ (nI f) (nI r) n) (v := v) (i := j) (c12 := nI (mcy (jap τ n 1 (nI j) (nI f) (nI r) (mvl τ (nI f) (nI r) n) v) (nI j) (n + 1))) (c13 := nI (mcn (jap τ n 1 (nI j) (nI f) (nI r) (mvl τ (nI f) (nI r) n) v) (nI j) (n + 1))) (c14 := nI (mcf (jap τ n 1 (nI j) (nI f) (nI r) (mvl τ (nI f) (nI r) n) v) (nI j) (n + 1))) hO hs
  have r1 : ∀ a, (a < 6 ∨ 14 < a) → a ≠ 100 → hap σ n 1 (nI j) (nI (8 * f + r)) (mvl τ (nI f) (nI r) n) v j (nI (mcy (jap τ n 1 (nI j) (nI f) (nI r) (mvl τ (nI f) (nI r) n) v) (nI j) (n + 1))) (nI (mcn (jap τ n 1 (nI j) (nI f) (nI r) (mvl τ (nI f) (nI r) n) v) (nI j) (n + 1))) (nI (mcf (jap τ n 1 (nI j) (nI f) (nI r) (mvl τ (nI f) (nI r) n) v) (nI j) (n + 1))) (nI (mbo (jap τ n 1 (nI j) (nI f) (nI r) (mvl τ (nI f) (nI r) n) v) (n + 1))) a = σ a := fun a h h2 => hap_row _ _ _ _ _ _ _ _ _ _ _ _ a h h2
  have r2 : ∀ q, hap σ n 1 (nI j) (nI (8 * f + r)) (mvl τ (nI f) (nI r) n) v j (nI (mcy (jap τ n 1 (nI j) (nI f) (nI r) (mvl τ (nI f) (nI r) n) v) (nI j) (n + 1))) (nI (mcn (jap τ n 1 (nI j) (nI f) (nI r) (mvl τ (nI f) (nI r) n) v) (nI j) (n + 1))) (nI (mcf (jap τ n 1 (nI j) (nI f) (nI r) (mvl τ (nI f) (nI r) n) v) (nI j) (n + 1))) (nI (mbo (jap τ n 1 (nI j) (nI f) (nI r) (mvl τ (nI f) (nI r) n) v) (n + 1))) 100 q = if q = 0 then nI (n + 1) else σ 100 q := fun q => hap_100 _ _ _ _ _ _ _ _ _ _ _ _ q
  have r3 : ∀ a, (a < 4 ∨ 9 < a) → a ≠ 100 → jap τ n 1 (nI j) (nI f) (nI r) (mvl τ (nI f) (nI r) n) v a = τ a := fun a h h2 => jap_row _ _ _ _ _ _ _ _ a h h2
  have r4 : ∀ q, jap τ n 1 (nI j) (nI f) (nI r) (mvl τ (nI f) (nI r) n) v 100 q = if q = 2 then nI (n + 1) else τ 100 q := fun q => jap_100 _ _ _ _ _ _ _ _ q
  have hnote := M_noteC τ n n2 hn (nI j) (nI f) (nI r) v
  generalize hap σ n 1 (nI j) (nI (8 * f + r)) (mvl τ (nI f) (nI r) n) v j (nI (mcy (jap τ n 1 (nI j) (nI f) (nI r) (mvl τ (nI f) (nI r) n) v) (nI j) (n + 1))) (nI (mcn (jap τ n 1 (nI j) (nI f) (nI r) (mvl τ (nI f) (nI r) n) v) (nI j) (n + 1))) (nI (mcf (jap τ n 1 (nI j) (nI f) (nI r) (mvl τ (nI f) (nI r) n) v) (nI j) (n + 1))) (nI (mbo (jap τ n 1 (nI j) (nI f) (nI r) (mvl τ (nI f) (nI r) n) v) (n + 1))) = σ1 at hadd hJ1 hC1 hO1 r1 r2
  generalize jap τ n 1 (nI j) (nI f) (nI r) (mvl τ (nI f) (nI r) n) v = τ1 at hnote hJ1 hC1 hO1 r3 r4 hs d1 d2 d3 d4 d5 d6
  -- the records
  have x15 : ∀ x, jw2 σ1 15 (8 * f + r) v 15 x = if x = 8 * f + r then v else σ 15 x := fun x => by
    rw [jw2_at, if_pos rfl, r1 15 (by decide) (by decide)]
  have hA2 : tA (jw2 σ1 15 (8 * f + r) v) τ1 (n + 1) c := by
    refine ⟨hJ1, hC1, hO1, fun f' r' hf' hr' => ?_⟩
    rw [x15, mvl_new hs, d1, d3, d4, d6]
    by_cases hz : 8 * f' + r' = 8 * f + r
    · have e1 : f' = f := by omega
      have e2 : r' = r := by omega
      subst e1; subst e2
      rw [if_pos rfl, if_pos ⟨rfl, rfl, rfl⟩]
    · rw [if_neg hz, if_neg (fun z => hz (by rw [nI_inj (by omega) (by omega) z.2.1, nI_inj (by omega) (by omega) z.2.2]))]
      exact hV f' r' hf' hr'
  have s16 : jw2 σ1 15 (8 * f + r) v 16 = σ 16 := r1 16 (by decide) (by decide)
  have s17 : jw2 σ1 15 (8 * f + r) v 17 = σ 17 := r1 17 (by decide) (by decide)
  have s18 : jw2 σ1 15 (8 * f + r) v 18 = σ 18 := r1 18 (by decide) (by decide)
  have s100 : ∀ q, jw2 σ1 15 (8 * f + r) v 100 q = if q = 0 then nI (n + 1) else σ 100 q := r2
  have hD2 : tD (jw2 σ1 15 (8 * f + r) v) τ1 (n + 1) d w := by
    obtain ⟨b1, b2, b3, b4, b5⟩ := hD
    refine ⟨by rw [s100, if_neg (by decide)]; exact b1, by rw [r4, if_neg (by decide)]; exact b2, b3, fun x hx => by rw [s16, r3 10 (by decide) (by decide)]; exact b4 x hx, fun i hi => ?_⟩
    obtain ⟨k, f', r', a1, a2, a3, a4, a5, a6, a7, a8, a9, a10⟩ := b5 i hi
    obtain ⟨g4, g5, g6, g7, g8, g9⟩ := hs k (by omega) a3
    exact ⟨k, f', r', by rw [r3 11 (by decide) (by decide)]; exact a1, a2, by omega, by rw [g4]; exact a4, a5, a6, by rw [g6]; exact a7, by rw [g7]; exact a8, by rw [s17]; exact a9, by rw [s18, g9]; exact a10⟩
  have hP2 : tP (jw2 σ1 15 (8 * f + r) v) τ1 (n + 1) d := by
    intro f' r' hf' hr' hm
    rw [s16, mvl_new hs, d1, d3, d4]
    rw [mlt, d1, d3, d4, mlt_same _ _ hs] at hm
    by_cases hz : (1 : Int32) = 1 ∧ nI f = nI f' ∧ nI r = nI r'
    · rw [if_pos hz] at hm; omega
    · rw [if_neg hz] at hm ⊢
      exact hP f' r' hf' hr' hm
  have hQ2 : tQ (jw2 σ1 15 (8 * f + r) v) τ1 n w := by
    intro f' r' hf' hr'
    rw [s16, mvl_same _ _ hs, fw_cong (σ := σ) _ _ w (fun i _ => ⟨by rw [s17], by rw [s18]⟩)]
    exact hQ f' r' hf' hr'
  have q27 : jw2 σ1 15 (8 * f + r) v 27 = σ 27 := r1 27 (by decide) (by decide)
  have qrow : ∀ a, 18 < a → a ≠ 100 → jw2 σ1 15 (8 * f + r) v a = σ a := fun a h h2 => by
    rw [← r1 a (by omega) h2]
    unfold jw2
    rw [if_neg (by omega)]
  -- the end, from any state behind the landing
  have fin : ∀ (σ3 τ2 : JS) (w' : Nat), w' < 24 → tA σ3 τ2 (n + 1) c → tD σ3 τ2 (n + 1) d w' → tP σ3 τ2 (n + 1) d → tQ σ3 τ2 n w' → (∀ a, 18 < a → a ≠ 100 → σ3 a = σ a) → (∀ q, q ≠ 0 → q ≠ 2 → σ3 100 q = σ 100 q) → (∀ a, 3 < a → a < 10 → τ2 a = τ1 a) → (∀ a, (a < 4 ∨ 11 < a) → a ≠ 100 → τ2 a = τ a) → (∀ q, q ≠ 2 → q ≠ 6 → τ2 100 q = τ 100 q) → ∃ (σ' τ' : JS) (w' : Nat), (if nI j = (3 : Int32) then some (hwt σ3 w' (8 * f + r) v) else jbn (mH_fileOf (hwt σ3 w' (8 * f + r) v) (nI (8 * f + r))) fun q8 => jwr (hwt σ3 w' (8 * f + r) v) 27 3 q8 (-1 : Int32) fun σ10 => some σ10) = some σ' ∧ mwt τ2 w' (n + 1) = τ' ∧ σ3 100 2 = nI w' ∧ tX σ' τ' (n + 1) c d (w' + 1) ∧ (∀ a, 18 < a → a ≠ 27 → a ≠ 100 → σ' a = σ a) ∧ (∀ q, q ≠ 0 → q ≠ 2 → σ' 100 q = σ 100 q) ∧ (∀ x, σ' 27 x = if j ≠ 3 ∧ x = f then -1 else σ 27 x) ∧ (∀ a, (a < 4 ∨ 11 < a) → a ≠ 100 → τ' a = τ a) ∧ (∀ q, q ≠ 2 → q ≠ 6 → τ' 100 q = τ 100 q) ∧ jsame τ τ' n ∧ τ' 4 (n + 1) = 1 ∧ τ' 5 (n + 1) = nI j ∧ τ' 6 (n + 1) = nI f ∧ τ' 7 (n + 1) = nI r ∧ τ' 9 (n + 1) = v := by
    intro σ3 τ2 w' hw' A3 D3 P3 Q3 g1 g2 g3 g4 g5
    have t4 : τ2 4 (n + 1) = 1 := by rw [g3 4 (by decide) (by decide)]; exact d1
    have t5 : τ2 5 (n + 1) = nI j := by rw [g3 5 (by decide) (by decide)]; exact d2
    have t6 : τ2 6 (n + 1) = nI f := by rw [g3 6 (by decide) (by decide)]; exact d3
    have t7 : τ2 7 (n + 1) = nI r := by rw [g3 7 (by decide) (by decide)]; exact d4
    have t9 : τ2 9 (n + 1) = v := by rw [g3 9 (by decide) (by decide)]; exact d6
    obtain ⟨D4, P4, Q4⟩ := t_wait hd hw' D3 P3 Q3 hf3 hr t4 t6 t7 t9
    have A4 : tA (hwt σ3 w' (8 * f + r) v) (mwt τ2 w' (n + 1)) (n + 1) c := tA_fr (σ := σ3) (τ := τ2) (fun a h1 h2 => by unfold hwt jw2; rw [if_neg (by omega), if_neg (by omega), if_neg (by omega)]) rfl (fun a h1 h2 => by unfold mwt jw2; rw [if_neg (by omega), if_neg (by omega)]) rfl A3
    have hrow : ∀ a, 18 < a → a ≠ 100 → hwt σ3 w' (8 * f + r) v a = σ a := fun a h h2 => by
      rw [← g1 a h h2]
      unfold hwt jw2
      rw [if_neg (by omega), if_neg (by omega), if_neg (by omega)]
    have h100 : ∀ q, q ≠ 0 → q ≠ 2 → hwt σ3 w' (8 * f + r) v 100 q = σ 100 q := fun q h0 h2 => by
      rw [← g2 q h0 h2]
      unfold hwt
      rw [jw2_at, if_pos rfl, if_neg h2]
      rfl
    have mrow : ∀ a, (a < 4 ∨ 11 < a) → a ≠ 100 → mwt τ2 w' (n + 1) a = τ a := fun a h h2 => by
      rw [← g4 a h h2]
      unfold mwt jw2
      rw [if_neg (by omega), if_neg (by omega)]
    have m100 : ∀ q, q ≠ 2 → q ≠ 6 → mwt τ2 w' (n + 1) 100 q = τ 100 q := fun q h0 h2 => by
      rw [← g5 q h0 h2]
      unfold mwt
      rw [jw2_at, if_pos rfl, if_neg h2]
      rfl
    have hsame : jsame τ (mwt τ2 w' (n + 1)) n := fun k k1 k2 => by
      obtain ⟨z4, z5, z6, z7, z8, z9⟩ := hs k k1 k2
      have e : ∀ a, 3 < a → a < 10 → mwt τ2 w' (n + 1) a k = τ1 a k := fun a h1 h2 => by
        rw [← g3 a h1 h2]
        unfold mwt jw2
        rw [if_neg (by omega), if_neg (by omega)]
      rw [e 4 (by decide) (by decide), e 5 (by decide) (by decide), e 6 (by decide) (by decide), e 7 (by decide) (by decide), e 8 (by decide) (by decide), e 9 (by decide) (by decide)]
      exact ⟨z4, z5, z6, z7, z8, z9⟩
    by_cases hj3 : nI j = (3 : Int32)
    · have ej : j = 3 := nI_inj (by omega) (by omega) (hj3.trans l3)
      refine ⟨hwt σ3 w' (8 * f + r) v, _, w', if_pos hj3, rfl, D3.1, ⟨A4, D4, P4, Q4⟩, fun a h _ h2 => hrow a h h2, h100, fun x => ?_, mrow, m100, hsame, t4, t5, t6, t7, t9⟩
      rw [if_neg (fun z => z.1 ej), hrow 27 (by decide) (by decide)]
    · have ej : j ≠ 3 := fun z => hj3 (by rw [z]; rfl)
      refine ⟨jw2 (hwt σ3 w' (8 * f + r) v) 27 f (-1), _, w', ?_, rfl, D3.1, ⟨tA_fr (σ := hwt σ3 w' (8 * f + r) v) (τ := mwt τ2 w' (n + 1)) (fun a h1 h2 => by unfold jw2; rw [if_neg (by omega)]) rfl (fun _ _ _ => rfl) rfl A4, D4, P4, fun f' r' hf' hr' => ?_⟩, fun a h h27 h2 => ?_, h100, fun x => ?_, mrow, m100, hsame, t4, t5, t6, t7, t9⟩
      · rw [if_neg hj3]
        unfold mH_fileOf
        rw [jbn_s, l8, pk_div (by omega) (by omega) (by omega), show (8 * f + r) / 8 = f by omega, jwr_n _ _ _ _ _ _ hf3 (by decide)]
      · rw [fw_cong (σ := hwt σ3 w' (8 * f + r) v) (σ' := jw2 (hwt σ3 w' (8 * f + r) v) 27 f (-1)) _ _ _ (fun i _ => ⟨rfl, rfl⟩)]
        exact Q4 f' r' hf' hr'
      · rw [← hrow a h h2]
        unfold jw2
        rw [if_neg h27]
      · rw [jw2_at, if_pos rfl, hrow 27 (by decide) (by decide)]
        by_cases hx : x = f
        · rw [if_pos hx, if_pos ⟨ej, hx⟩]
        · rw [if_neg hx, if_neg (fun z => hx z.2)]
  have hw24 := hD.2.2.1
  have hx24 : 8 * f + r < 24 := by omega
  by_cases hw : w = 24
  · -- the oldest lands first
    subst hw
    obtain ⟨τ2, hl, hLd⟩ := mLd_step (by omega : n + 1 ≤ 120) hD2 (by omega : 0 < 24) (mLd_0 hD2)
    have hH := H_land (jw2 σ1 15 (8 * f + r) v) 1 24 hD2.1 (by omega) (by omega) (tD_y hD2)
    have hfr := hLd.1
    have A3 : tA (hld (jw2 σ1 15 (8 * f + r) v) 1 24) τ2 (n + 1) c := tA_fr (fun a h1 h2 => hld_row _ _ _ _ (by omega) (by omega) (by omega) (by omega)) (by rw [hld_100, if_neg (by decide)]) (fun a h1 h2 => hfr.1 a (by omega) (by omega) (by omega)) (hfr.2 2 (by decide)) hA2
    obtain ⟨σ', τ', w', k1, k2, k3, k4⟩ := fin (hld (jw2 σ1 15 (8 * f + r) v) 1 24) τ2 23 (by omega) A3 (tD_land hD2 (by omega) hLd) (tP_land hD2 (by omega) hfr hP2) (tQ_land (by omega) hfr hQ2) (fun a h h2 => by rw [hld_row _ _ _ _ (by omega) (by omega) (by omega) h2]; exact qrow a h h2) (fun q h0 h2 => by rw [hld_100, if_neg h2, s100, if_neg h0]) (fun a h1 h2 => hfr.1 a (by omega) (by omega) (by omega)) (fun a h1 h2 => by rw [hfr.1 a (by omega) (by omega) h2]; exact r3 a (by omega) h2) (fun q h0 h2 => by rw [hfr.2 q h2, r4, if_neg h0])
    have ew : w' = 23 := by
      have e := (hld_100 (jw2 σ1 15 (8 * f + r) v) 1 24 2)
      rw [if_pos rfl] at e
      rw [e] at k3
      have hle := k4.1.2.1.2.2.1
      exact (nI_inj (by omega) (by omega) k3).symm
    subst ew
    refine ⟨σ', τ', 23 + 1, ?_, ?_, k4⟩
    · unfold mH_writeChange
      rw [jrd_n _ _ _ _ _ hx24 (by decide), v15, hadd, jbn_s]
      unfold mS_write
      rw [jwr_n _ _ _ _ _ _ hx24 (by decide), hD2.1, if_pos (by decide), l1, hH, jbn_s]
      unfold mS_write_J21
      rw [k3, jwr_n _ _ _ _ _ _ (by omega) (by decide)]
      rw [show (jw2 (hld (jw2 σ1 15 (8 * f + r) v) 1 24) 17 23 (nI (8 * f + r))) 100 2 = nI 23 from k3, jwr_n _ _ _ _ _ _ (by omega) (by decide), jst_n]
      rw [show (jw2 (jw2 (hld (jw2 σ1 15 (8 * f + r) v) 1 24) 17 23 (nI (8 * f + r))) 18 23 v) 100 2 = nI 23 from k3, nI_1, jbn_s]
      exact k1
    · unfold mM_put
      rw [hnote, jbn_s, hD2.2.1, if_pos (by decide), hl, jbn_s, hLd.2.1, hfr.2 2 (by decide), hJ1.2.1, jwr_n _ _ _ _ _ _ (by omega) (by decide), jst_n]
      rw [show (jw2 τ2 11 (24 - (0 + 1)) (nI (n + 1))) 100 6 = nI 23 from hLd.2.1, nI_1]
      rw [← k2]
      rfl
  · obtain ⟨σ', τ', w', k1, k2, k3, k4⟩ := fin (jw2 σ1 15 (8 * f + r) v) τ1 w (by omega) hA2 hD2 hP2 hQ2 qrow (fun q h0 h2 => by rw [s100, if_neg h0]) (fun _ _ _ => rfl) (fun a h1 h2 => r3 a (by omega) h2) (fun q h0 h2 => by rw [r4, if_neg h0])
    have ew : w' = w := by
      rw [hD2.1] at k3
      have hle := k4.1.2.1.2.2.1
      exact (nI_inj (by omega) (by omega) k3).symm
    subst ew
    refine ⟨σ', τ', w' + 1, ?_, ?_, k4⟩
    · unfold mH_writeChange
      rw [jrd_n _ _ _ _ _ hx24 (by decide), v15, hadd, jbn_s]
      unfold mS_write
      rw [jwr_n _ _ _ _ _ _ hx24 (by decide), k3, if_neg (show ¬ nI w' = (24 : Int32) from fun z => hw (nI_inj (b := 24) (by omega) (by omega) z))]
      unfold mS_write_J21
      rw [k3, jwr_n _ _ _ _ _ _ (by omega) (by decide)]
      rw [show (jw2 (jw2 σ1 15 (8 * f + r) v) 17 w' (nI (8 * f + r))) 100 2 = nI w' from k3, jwr_n _ _ _ _ _ _ (by omega) (by decide), jst_n]
      rw [show (jw2 (jw2 (jw2 σ1 15 (8 * f + r) v) 17 w' (nI (8 * f + r))) 18 w' v) 100 2 = nI w' from k3, nI_1, jbn_s]
      exact k1
    · unfold mM_put
      rw [hnote, jbn_s, hD2.2.1, if_neg (show ¬ nI w' = (24 : Int32) from fun z => hw (nI_inj (b := 24) (by omega) (by omega) z)), hJ1.2.1, jwr_n _ _ _ _ _ _ (by omega) (by decide), jst_n]
      rw [show (jw2 τ1 11 w' (nI (n + 1))) 100 6 = nI w' from hD2.2.1, nI_1]
      rw [← k2]
      rfl
