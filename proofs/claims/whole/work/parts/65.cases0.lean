theorem jgW {maxL : Nat} {y : MethodName} {bytes : ByteArray} {ret : Option FieldType} {hh : List (Nat × Nat × Nat × Nat)} (h5 : Cond.codeWith y bytes maxL ret hh ∈ jall) : GoodIn jall (.codeWith y bytes maxL ret hh :: jall) := by
  refine jall_G fun w hw => ?_
  rcases List.mem_cons.mp hw with rfl | h
  · exact h5
  · exact h
/-- lcmp of a number with itself, and the branch behind it -/
theorem j_lcmp0 {p : Program} {l : Launch} {e : Env} {R : Room} {s : State} {m : MethodId} {args : Array Value} {below : List Frame} {meth : Method} {c : Code} {H : Heap} {locs : List Loc} {cells slots : Nat} {Q : State → Prop} {cc : ByteArray} {pc : Nat} {ls : Array Slot} {rest : List Value} (hx : p.tables.exec = Jvm.exec) (hb : c.code = cc) {x y : Int64} {off : Int} {tgt : Nat} (d1 : decode cc pc = .ok (.lcmp, 1)) (d2 : decode cc (pc + 1) = .ok (.ifCond .eq off, 3)) (ht : ((pc + 1 : Nat) : Int) + off = (tgt : Int)) (hxy : x = y) (k : W p l e R s m args below meth c H locs cells slots Q (F0 m tgt ls rest)) : W p l e R s m args below meth c H locs cells slots Q (F0 m pc ls (.long y :: .long x :: rest)) := by
  subst hxy
  refine W.lcmp hx hb d1 ?_
  have h0 : lg_cmp x x = 0 := by simp [lg_cmp]
  exact lv_if_eq (pc := pc + 1) (tgt := tgt) hx hb d2 ht (fun _ => k) (fun h => absurd h0 h)
/-! what is asked of an invariant of house and model -/
def jo_file (I : JS → JS → Prop) : Prop := ∀ (σ τ : JS) (x1 : Int32), I σ τ → ∃ (ko : Nat) (vo : Int32) (σo : JS) (w : Int32) (τo : JS), mH_file σ x1 = some (ko, vo, σo) ∧ mM_file τ x1 = some (w, τo) ∧ τo 100 0 = zR ko ∧ (ko = 0 → vo = w) ∧ I σo τo
def jo_change (I : JS → JS → Prop) : Prop := ∀ (σ τ : JS) (x1 x2 x3 x4 : Int32), I σ τ → ∃ (ko : Nat) (vo : Int32) (σo : JS) (w : Int32) (τo : JS), mH_change σ x1 x2 x3 x4 = some (ko, vo, σo) ∧ mM_change τ x1 x2 x3 x4 = some (w, τo) ∧ τo 100 0 = zR ko ∧ (ko = 0 → vo = w) ∧ I σo τo
def jo_end (I : JS → JS → Prop) : Prop := ∀ (σ τ : JS) (x1 x2 : Int32), (x2 = 0 ∨ x2 = 1) → I σ τ → ∃ (ko : Nat) (vo : Int32) (σo : JS) (w : Int32) (τo : JS), mH_end σ x1 x2 = some (ko, vo, σo) ∧ mM_end τ x1 x2 = some (w, τo) ∧ τo 100 0 = zR ko ∧ (ko = 0 → vo = w) ∧ I σo τo
def jo_save (I : JS → JS → Prop) : Prop := ∀ (σ τ : JS) (x1 x2 : Int32), I σ τ → ∃ (ko : Nat) (vo : Int32) (σo : JS) (w : Int32) (τo : JS), mH_save σ x1 x2 = some (ko, vo, σo) ∧ mM_save τ x1 x2 = some (w, τo) ∧ τo 100 0 = zR ko ∧ (ko = 0 → vo = w) ∧ I σo τo
def jo_restore (I : JS → JS → Prop) : Prop := ∀ (σ τ : JS) (x1 : Int32), I σ τ → ∃ (ko : Nat) (vo : Int32) (σo : JS) (w : Int32) (τo : JS), mH_restore σ x1 = some (ko, vo, σo) ∧ mM_restore τ x1 = some (w, τo) ∧ τo 100 0 = zR ko ∧ (ko = 0 → vo = w) ∧ I σo τo
def jo_apply (I : JS → JS → Prop) : Prop := ∀ (σ τ : JS) (x1 x2 : Int32), I σ τ → ∃ (ko : Nat) (vo : Int32) (σo : JS) (w : Int32) (τo : JS), mH_apply σ x1 x2 = some (ko, vo, σo) ∧ mM_apply τ x1 x2 = some (w, τo) ∧ τo 100 0 = zR ko ∧ (ko = 0 → vo = w) ∧ I σo τo
def jo_remove (I : JS → JS → Prop) : Prop := ∀ (σ τ : JS) (x1 x2 : Int32), I σ τ → ∃ (ko : Nat) (vo : Int32) (σo : JS) (w : Int32) (τo : JS), mH_remove σ x1 x2 = some (ko, vo, σo) ∧ mM_remove τ x1 x2 = some (w, τo) ∧ τo 100 0 = zR ko ∧ (ko = 0 → vo = w) ∧ I σo τo
def jo_cut (I : JS → JS → Prop) : Prop := ∀ (σ τ : JS) (x1 : Int32), I σ τ → ∃ (ko : Nat) (vo : Int32) (σo : JS) (w : Int32) (τo : JS), mH_cut σ x1 = some (ko, vo, σo) ∧ mM_cut τ x1 = some (w, τo) ∧ τo 100 0 = zR ko ∧ (ko = 0 → vo = w) ∧ I σo τo
def jo_link (I : JS → JS → Prop) : Prop := ∀ (σ τ : JS) (x1 x2 : Int32), I σ τ → ∃ (ko : Nat) (vo : Int32) (σo : JS) (w : Int32) (τo : JS), mH_link σ x1 x2 = some (ko, vo, σo) ∧ mM_link τ x1 x2 = some (w, τo) ∧ τo 100 0 = zR ko ∧ (ko = 0 → vo = w) ∧ I σo τo
def jo_drop (I : JS → JS → Prop) : Prop := ∀ (σ τ : JS), I σ τ → ∃ (ko : Nat) (vo : Int32) (σo : JS) (w : Int32) (τo : JS), mH_drop σ  = some (ko, vo, σo) ∧ mM_drop τ  = some (w, τo) ∧ τo 100 0 = zR1 ko ∧ (ko = 0 → vo = w) ∧ ¬ ko = 1 ∧ I σo τo
def jo_start (I : JS → JS → Prop) : Prop := ∀ (σ τ : JS), I σ τ → ∃ (ko : Nat) (vo : Int32) (σo : JS) (w : Int32) (τo : JS), mH_start σ  = some (ko, vo, σo) ∧ mM_start τ  = some (w, τo) ∧ τo 100 0 = zR1 ko ∧ (ko = 0 → vo = w) ∧ ¬ ko = 1 ∧ I σo τo
def jo_ack (I : JS → JS → Prop) : Prop := ∀ (σ τ : JS), I σ τ → ∃ (ko : Nat) (vo : Int32) (σo : JS) (w : Int32) (τo : JS), mH_ack σ  = some (ko, vo, σo) ∧ mM_ack τ  = some (w, τo) ∧ τo 100 0 = zR1 ko ∧ (ko = 0 → vo = w) ∧ ¬ ko = 1 ∧ I σo τo
def jo_get (I : JS → JS → Prop) : Prop := ∀ (σ τ : JS) (x1 x2 : Int32), I σ τ → ∃ (v : Int64) (τo : JS), mH_get σ x1 x2 = some v ∧ mM_get τ x1 x2 = some (v, τo) ∧ I σ τo
def jo_disk (I : JS → JS → Prop) : Prop := ∀ (σ τ : JS) (x1 x2 : Int32), I σ τ → ∃ (v : Int64) (τo : JS), mH_disk σ x1 x2 = some v ∧ mM_disk τ x1 x2 = some (v, τo) ∧ I σ τo
def jo_entry (I : JS → JS → Prop) : Prop := ∀ (σ τ : JS) (x1 x2 : Int32), I σ τ → ∃ (v : Int64) (τo : JS), mH_entry σ x1 x2 = some v ∧ mM_entry τ x1 x2 = some (v, τo) ∧ I σ τo
def jo_remote (I : JS → JS → Prop) : Prop := ∀ (σ τ : JS) (x1 x2 : Int32), I σ τ → ∃ (v : Int64) (τo : JS), mH_remote σ x1 x2 = some v ∧ mM_remote τ x1 x2 = some (v, τo) ∧ I σ τo
def jo_number (I : JS → JS → Prop) : Prop := ∀ (σ τ : JS) (x1 : Int32), I σ τ → ∃ (v : Int32) (τo : JS), mH_number σ x1 = some v ∧ mM_number τ x1 = some (v, τo) ∧ I σ τo
def jo_last (I : JS → JS → Prop) : Prop := ∀ (σ τ : JS), I σ τ → ∃ (v : Int32) (τo : JS), mH_last σ  = some v ∧ mM_last τ  = some (v, τo) ∧ I σ τo
def jo_boundary (I : JS → JS → Prop) : Prop := ∀ (σ τ : JS) (x1 x2 : Int32), I σ τ → ∃ (v : Int32) (τo : JS), mH_boundary σ x1 x2 = some v ∧ mM_boundary τ x1 x2 = some (v, τo) ∧ I σ τo
def jo_takeOver (I : JS → JS → Prop) : Prop := ∀ (σ τ : JS), I σ τ → ∃ (v : Int32) (σo τo : JS), mH_takeOver σ = some (v, σo) ∧ mM_takeOver τ = some (v, τo) ∧ I σo τo
/-- the law's world: the house, the model, the row of one long -/
def gC (ca : Nat → ClassId) (ad : Nat → Nat) (cb : Nat → ClassId) (bd : Nat → Nat) (o : Nat) (cJ : ClassId) (σ τ : JS) (g : Nat → Int64) : va_W := xC ca ad σ ++ (mC cb bd τ ++ [(o, .inl (cJ, 1, .inr (.inl g)))])
def gT (ca : Nat → ClassId) (cb : Nat → ClassId) (cJ : ClassId) : List (ClassId × FieldType) := xT ca ++ (mT cb ++ [(cJ, .long)])
def gA (s : State) : Nat → Prop := fun q => s.heap.size ≤ q
section LG
variable {D : va_G} {ca cb : Nat → ClassId} {ad bd : Nat → Nat} {o : Nat} {cJ : ClassId} {σ τ : JS} {g : Nat → Int64} {A : Nat → Prop} {H0 H : Heap} {locs : List Loc} {s : State}
theorem gT_x : ∀ q ∈ xT ca, q ∈ gT ca cb cJ := fun _ h => List.mem_append_left _ h
theorem gT_m : ∀ q ∈ mT cb, q ∈ gT ca cb cJ := fun _ h => List.mem_append_right _ (List.mem_append_left _ h)
theorem gT_l : ∀ q ∈ lT ca cJ, q ∈ gT ca cb cJ := fun _ h => (List.mem_append.mp h).elim (fun h => List.mem_append_left _ h) (fun h => List.mem_append_right _ (List.mem_append_right _ h))
theorem gH_x (h : jH D (gT ca cb cJ) (gC ca ad cb bd o cJ σ τ g) A H0 H locs s) : jH D (xT ca) (xC ca ad σ) A H0 H locs s := jH_left h gT_x
theorem gH_mf (h : jH D (gT ca cb cJ) (gC ca ad cb bd o cJ σ τ g) A H0 H locs s) : jH D (gT ca cb cJ) (mC cb bd τ ++ (xC ca ad σ ++ [(o, .inl (cJ, 1, .inr (.inl g)))])) A H0 H locs s := jH_perm h (List.perm_append_comm_assoc _ _ _) (fun _ h => h)
theorem gH_mb (h : jH D (gT ca cb cJ) (mC cb bd τ ++ (xC ca ad σ ++ [(o, .inl (cJ, 1, .inr (.inl g)))])) A H0 H locs s) : jH D (gT ca cb cJ) (gC ca ad cb bd o cJ σ τ g) A H0 H locs s := jH_perm h (List.perm_append_comm_assoc _ _ _) (fun _ h => h)
theorem gH_m (h : jH D (gT ca cb cJ) (gC ca ad cb bd o cJ σ τ g) A H0 H locs s) : jH D (mT cb) (mC cb bd τ) A H0 H locs s := jH_left (gH_mf h) gT_m
theorem gH_lf (h : jH D (gT ca cb cJ) (gC ca ad cb bd o cJ σ τ g) A H0 H locs s) : jH D (gT ca cb cJ) (lC ca ad o cJ σ g ++ mC cb bd τ) A H0 H locs s := by
  refine jH_perm h ?_ (fun _ h => h)
  unfold gC lC
  rw [List.append_assoc]
  exact List.Perm.append_left _ List.perm_append_comm
theorem gH_lb (h : jH D (gT ca cb cJ) (lC ca ad o cJ σ g ++ mC cb bd τ) A H0 H locs s) : jH D (gT ca cb cJ) (gC ca ad cb bd o cJ σ τ g) A H0 H locs s := by
  refine jH_perm h ?_ (fun _ h => h)
  unfold gC lC
  rw [List.append_assoc]
  exact List.Perm.append_left _ List.perm_append_comm
theorem gH_l (h : jH D (gT ca cb cJ) (gC ca ad cb bd o cJ σ τ g) A H0 H locs s) : jH D (lT ca cJ) (lC ca ad o cJ σ g) A H0 H locs s := jH_left (gH_lf h) gT_l
end LG
section LZ
variable {p : Program} {l : Launch} {e : Env} {R : Room} {s : State} {m : MethodId} {args : Array Value} {below : List Frame} {meth : Method} {c : Code} {H : Heap} {locs : List Loc} {cells slots : Nat} {Q : State → Prop} {pc : Nat} {ls : Array Slot} {rest st0 : List Value} {D : va_G} {tys : List (ClassId × FieldType)} {ca : Nat → ClassId} {ad : Nat → Nat} {o : Nat} {cJ : ClassId} {σ σo : JS} {g go : Nat → Int64} {ex : va_W} {A : Nat → Prop} {H0 : Heap}
theorem j_callZ {av : Array Value} {v : Int32} (hw : jH D tys (lC ca ad o cJ σ g ++ ex) A H0 H locs s) (hA : ∀ q, H0.size ≤ q → A q) (hr : va_Run p l e R s m args below meth c H locs cells slots 1 6 (F0 m pc ls st0) rest (zQ D ca ad o cJ (va_A (lC ca ad o cJ σ g) H.size) v σo go av) (va_A (lC ca ad o cJ σ g) H.size))
    (kk : ∀ (H1 : Heap) (locs1 : List Loc), jH D tys (lC ca ad o cJ σo go ++ ex) A H0 H1 locs1 s → W p l e R s m args below meth c H1 locs1 (cells + 1) (slots + 6) Q (F0 m (pc + 3) ls (.int v :: rest))) : W p l e R s m args below meth c H locs cells slots Q (F0 m pc ls st0) := by
  have hf := j_free (jH_left (tys' := []) hw (fun _ h => by cases h)) hA
  refine va_calli hr hw.2.2.1 (fun q _ h => hf q h) hf (fun r u t H1 locs1 ht hvm hp hB hz hk hS => ?_)
  obtain ⟨rfl, hu⟩ := hp
  subst hu
  obtain ⟨hP1, hK1, hD1⟩ := hB
  rw [ht] at hP1
  exact kk H1 locs1 (jH_frame hw hA hk hP1 hD1 hS)
end LZ
theorem zR_0 {k : Nat} (h : zR k = 0) : k = 0 := by
  unfold zR at h
  by_cases h0 : k = 0
  · exact h0
  · rw [if_neg h0] at h
    by_cases h1 : k = 1
    · rw [if_pos h1] at h; exact absurd h (by decide)
    · rw [if_neg h1] at h; exact absurd h (by decide)
theorem zR1_0 {k : Nat} (h : zR1 k = 0) : k = 0 := by
  unfold zR1 at h
  by_cases h0 : k = 0
  · exact h0
  · rw [if_neg h0] at h; exact absurd h (by decide)
theorem zG_0 {v : Int32} {g : Nat → Int64} : zG 0 v g 0 = v.toInt64 := rfl
theorem lw_in {k L : Nat} (j : Nat) (hj : j < 5) (hk : 5 * k + 5 ≤ L) (hL : L ≤ 2560) : vp_in (nI (5 * k) + nI j) L := by
  rw [nI_add]
  exact vp_in_nI (by omega) (by omega)
