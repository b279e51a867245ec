/-! ===== the state ahead, laid by program (wip/whole/mkcopy.py) ===== -/
/-- the unused rows of the state ahead -/
def Tau (np nl ng : Nat) (τ : mSt) : Prop := (∀ f p, 1 ≤ f → f < 5 → np ≤ p → p < 8 → τ f p = 0) ∧ (∀ k, nl ≤ k → k < 20 → τ 9 k = -1) ∧ (∀ g, ng ≤ g → g < 16 → τ 17 g = -1)
theorem Tau.init {np nl ng : Nat} : Tau np nl ng iσ := ⟨fun f p h1 h2 _ _ => by unfold iσ; match f, h1, h2 with | 1, _, _ => rfl | 2, _, _ => rfl | 3, _, _ => rfl | 4, _, _ => rfl | f + 5, _, h => exact absurd h (by omega), fun _ _ _ => rfl, fun _ _ _ => rfl⟩
theorem Tau.mono {np nl ng np9 nl9 ng9 : Nat} {τ : mSt} (h : Tau np nl ng τ) (h1 : np ≤ np9) (h2 : nl ≤ nl9) (h3 : ng ≤ ng9) : Tau np9 nl9 ng9 τ := ⟨fun f p a b c d => h.1 f p a b (by omega) d, fun k a b => h.2.1 k (by omega) b, fun g a b => h.2.2 g (by omega) b⟩
theorem Tau.of {np nl ng B x : Nat} {σ ρ : mSt} (h : Iv np nl ng B x σ ρ) : Tau np nl ng σ := ⟨fun f p a b c d => by match f, a, b with | 1, _, _ => exact (h.u1 p c d).1 | 2, _, _ => exact (h.u2 p c d).1 | 3, _, _ => exact (h.u3 p c d).1 | 4, _, _ => exact (h.u4 p c d).1 | f + 5, _, h => exact absurd h (by omega), h.lu, h.gu⟩
/-- the used rows are those of σ, the others as they were -/
def Cp (np nl ng : Nat) (σ τ τ9 : mSt) : Prop := (∀ f p, f < 5 → p < np → τ9 f p = σ f p) ∧ (∀ f k, 5 ≤ f → f < 10 → k < nl → τ9 f k = σ f k) ∧ (∀ f g, 10 ≤ f → f < 18 → g < ng → τ9 f g = σ f g) ∧ (∀ f i, 18 ≤ f → f < 21 → i < 2 * ng → τ9 f i = σ f i) ∧ (∀ f, 21 ≤ f → f < 28 → τ9 f 0 = σ f 0) ∧ (∀ f p, f < 5 → np ≤ p → τ9 f p = τ f p) ∧ (∀ k, nl ≤ k → τ9 9 k = τ 9 k) ∧ (∀ g, ng ≤ g → τ9 17 g = τ 17 g)
theorem uO9 {σ : mSt} {f k g q : Nat} {x : Int32} (h : q ≠ k) : mUp σ f k x g q = σ g q := by unfold mUp; rw [if_neg (fun e => h e.2)]
theorem mLp8 {f p : Nat} (hf : f < 5) (h : p < 8) : p < mLen f := by unfold mLen; rw [if_pos hf]; exact h
theorem iv_copy {np nl ng B x : Nat} {σ ρ τ τ9 α9 : mSt} (h : Iv np nl ng B x σ ρ) (ta : Tau np nl ng τ) (c : Cp np nl ng σ τ τ9) (aA : ∀ f j, f < 20 → j < mLen f → α9 f j = ρ f j) (aS : ∀ f, 20 ≤ f → f < 27 → α9 f 0 = ρ f 0) : Iv np nl ng B x τ9 α9 := by
  have hp8 := h.hp
  have hl8 := h.hl
  have hg8 := h.hg
  exact ⟨h.hp, h.hl, h.hg, (c.2.2.2.2.1 21 (by omega) (by omega)).trans h.c21, (c.2.2.2.2.1 22 (by omega) (by omega)).trans h.c22, (c.2.2.2.2.1 23 (by omega) (by omega)).trans h.c23, (aS 21 (by omega) (by omega)).trans h.d21, (aS 23 (by omega) (by omega)).trans h.d23, (aS 22 (by omega) (by omega)).trans h.d22, (aS 20 (by omega) (by omega)).trans (h.tm.trans (c.2.2.2.2.1 24 (by omega) (by omega)).symm), (aS 24 (by omega) (by omega)).trans (h.rs.trans (c.2.2.2.2.1 25 (by omega) (by omega)).symm), (aS 25 (by omega) (by omega)).trans (h.bk.trans (c.2.2.2.2.1 26 (by omega) (by omega)).symm), by rw [(aS 26 (by omega) (by omega)), (c.2.2.2.2.1 25 (by omega) (by omega))]; exact h.ou, (c.2.2.2.2.1 27 (by omega) (by omega)).trans (h.ca.trans (sI_eq (fun p hp => (c.1 4 p (by omega) hp).symm))), fun p hp => (aA 0 p (by omega) (mLp8 (by omega) (by omega))).trans ((h.e0 p hp).trans (c.1 0 p (by omega) hp).symm), fun p hp => (aA 1 p (by omega) (mLp8 (by omega) (by omega))).trans ((h.e1 p hp).trans (c.1 1 p (by omega) hp).symm), fun p hp => (aA 2 p (by omega) (mLp8 (by omega) (by omega))).trans ((h.e2 p hp).trans (c.1 2 p (by omega) hp).symm), fun p hp => (aA 3 p (by omega) (mLp8 (by omega) (by omega))).trans ((h.e3 p hp).trans (c.1 3 p (by omega) hp).symm), fun p hp => (aA 4 p (by omega) (mLp8 (by omega) (by omega))).trans ((h.e4 p hp).trans (c.1 4 p (by omega) hp).symm), fun k hk => (aA 15 k (by omega) (show k < 20 by omega)).trans ((h.e15 k hk).trans (c.2.1 5 k (by omega) (by omega) hk).symm), fun k hk => (aA 16 k (by omega) (show k < 20 by omega)).trans ((h.e16 k hk).trans (c.2.1 6 k (by omega) (by omega) hk).symm), fun k hk => (aA 17 k (by omega) (show k < 20 by omega)).trans ((h.e17 k hk).trans (c.2.1 7 k (by omega) (by omega) hk).symm), fun k hk => (aA 18 k (by omega) (show k < 20 by omega)).trans ((h.e18 k hk).trans (c.2.1 8 k (by omega) (by omega) hk).symm), fun k hk => (aA 19 k (by omega) (show k < 20 by omega)).trans ((h.e19 k hk).trans (c.2.1 9 k (by omega) (by omega) hk).symm), fun g hg => (aA 8 g (by omega) (show g < 16 by omega)).trans ((h.e8 g hg).trans (c.2.2.1 11 g (by omega) (by omega) hg).symm), fun g hg => (aA 9 g (by omega) (show g < 16 by omega)).trans ((h.e9 g hg).trans (c.2.2.1 12 g (by omega) (by omega) hg).symm), fun g hg => (aA 10 g (by omega) (show g < 16 by omega)).trans ((h.e10 g hg).trans (c.2.2.1 13 g (by omega) (by omega) hg).symm), fun g hg => (aA 11 g (by omega) (show g < 16 by omega)).trans ((h.e11 g hg).trans (c.2.2.1 14 g (by omega) (by omega) hg).symm), fun g hg => (aA 12 g (by omega) (show g < 16 by omega)).trans ((h.e12 g hg).trans (c.2.2.1 15 g (by omega) (by omega) hg).symm), fun g hg => (aA 13 g (by omega) (show g < 16 by omega)).trans ((h.e13 g hg).trans (c.2.2.1 16 g (by omega) (by omega) hg).symm), fun g hg => (aA 14 g (by omega) (show g < 16 by omega)).trans ((h.e14 g hg).trans (c.2.2.1 17 g (by omega) (by omega) hg).symm), fun i hi => (aA 5 i (by omega) (show i < 32 by omega)).trans ((h.e5 i hi).trans (c.2.2.2.1 18 i (by omega) (by omega) hi).symm), fun i hi => (aA 6 i (by omega) (show i < 32 by omega)).trans ((h.e6 i hi).trans (c.2.2.2.1 19 i (by omega) (by omega) hi).symm), fun i hi => (aA 7 i (by omega) (show i < 32 by omega)).trans ((h.e7 i hi).trans (c.2.2.2.1 20 i (by omega) (by omega) hi).symm), fun g hg => (c.2.2.1 10 g (by omega) (by omega) hg).trans (h.nu g hg), fun i hi => by rw [(c.2.2.2.1 18 i (by omega) (by omega) hi)]; exact h.pl i hi, fun g hg => by rw [(c.2.2.2.1 18 (2 * g) (by omega) (by omega) (by omega)), (c.2.2.2.1 18 (2 * g + 1) (by omega) (by omega) (by omega))]; exact h.ne g hg, fun k hk => by rw [(c.2.1 5 k (by omega) (by omega) hk)]; exact h.bo k hk, fun k hk => by rw [(c.2.1 9 k (by omega) (by omega) hk)]; exact h.lk k hk, fun k h1 h2 => (c.2.2.2.2.2.2.1 k h1).trans (ta.2.1 k h1 h2), fun g hg => by rw [(c.2.2.1 17 g (by omega) (by omega) hg)]; exact h.gk g hg, fun g h1 h2 => (c.2.2.2.2.2.2.2 g h1).trans (ta.2.2 g h1 h2), fun g hg => by rw [(c.2.2.1 14 g (by omega) (by omega) hg)]; exact h.tu g hg, fun p hp => by rw [(c.1 1 p (by omega) hp)]; exact h.b1 p hp, fun p hp => by rw [(c.1 2 p (by omega) hp)]; exact h.b2 p hp, fun p hp => by rw [(c.1 3 p (by omega) hp)]; exact h.b3 p hp, fun k hk => by rw [(c.2.1 6 k (by omega) (by omega) hk)]; exact h.b6 k hk, fun k hk => by rw [(c.2.1 7 k (by omega) (by omega) hk)]; exact h.b7 k hk, fun g hg => by rw [(c.2.2.1 11 g (by omega) (by omega) hg)]; exact h.b11 g hg, fun g hg => by rw [(c.2.2.1 12 g (by omega) (by omega) hg)]; exact h.b12 g hg, fun g hg => by rw [(c.2.2.1 16 g (by omega) (by omega) hg)]; exact h.b16 g hg, fun g hg hx h17 => by rw [(c.2.2.2.1 19 (2 * g) (by omega) (by omega) (by omega)), (c.2.2.2.1 19 (2 * g + 1) (by omega) (by omega) (by omega))]; exact h.b19 g hg hx ((c.2.2.1 17 g (by omega) (by omega) hg).symm.trans h17), fun i hi => by rw [(c.2.2.2.1 20 i (by omega) (by omega) hi)]; exact h.b20 i hi, fun p h1 h2 => ⟨(c.2.2.2.2.2.1 1 p (by omega) h1).trans (ta.1 1 p (by omega) (by omega) h1 h2), (aA 1 p (by omega) (mLp8 (by omega) h2)).trans (h.u1 p h1 h2).2⟩, fun p h1 h2 => ⟨(c.2.2.2.2.2.1 2 p (by omega) h1).trans (ta.1 2 p (by omega) (by omega) h1 h2), (aA 2 p (by omega) (mLp8 (by omega) h2)).trans (h.u2 p h1 h2).2⟩, fun p h1 h2 => ⟨(c.2.2.2.2.2.1 3 p (by omega) h1).trans (ta.1 3 p (by omega) (by omega) h1 h2), (aA 3 p (by omega) (mLp8 (by omega) h2)).trans (h.u3 p h1 h2).2⟩, fun p h1 h2 => ⟨(c.2.2.2.2.2.1 4 p (by omega) h1).trans (ta.1 4 p (by omega) (by omega) h1 h2), (aA 4 p (by omega) (mLp8 (by omega) h2)).trans (h.u4 p h1 h2).2⟩, fun i h1 h2 => (aA 7 i (by omega) h2).trans (h.v7 i h1 h2), fun g h1 h2 => (aA 11 g (by omega) h2).trans (h.v11 g h1 h2), fun g h1 h2 => (aA 12 g (by omega) h2).trans (h.v12 g h1 h2), fun g h1 h2 => (aA 13 g (by omega) h2).trans (h.v13 g h1 h2), fun g h1 h2 => (aA 14 g (by omega) h2).trans (h.v14 g h1 h2)⟩
theorem cp_P {N p : Nat} {σ T : mSt} (hp : p < 8) : ∃ T9, f_X2_copy N σ T p p = some ((), σ, T9) ∧ (∀ f j, f < 5 → j = p → T9 f j = σ f j) ∧ (∀ f j, ¬ (f < 5 ∧ j = p) → T9 f j = T f j) := by
  refine ⟨_, by unfold f_X2_copy; rw [if_pos hp, if_pos hp], fun f j hf hj => ?_, fun f j h => ?_⟩
  · subst hj
    match f, hf with
    | 0, _ => exact uS
    | 1, _ => exact uS
    | 2, _ => exact uS
    | 3, _ => exact uS
    | 4, _ => exact uS
    | f + 5, h => exact absurd h (by omega)
  · by_cases hj : j = p
    · rw [uF (by omega), uF (by omega), uF (by omega), uF (by omega), uF (by omega)]
    · rw [uO9 hj, uO9 hj, uO9 hj, uO9 hj, uO9 hj]
theorem cp_L {N p : Nat} {σ T : mSt} (hp : p < 20) : ∃ T9, f_X1_copy N σ T p p = some ((), σ, T9) ∧ (∀ f j, 5 ≤ f → f < 10 → j = p → T9 f j = σ f j) ∧ (∀ f j, ¬ (5 ≤ f ∧ f < 10 ∧ j = p) → T9 f j = T f j) := by
  refine ⟨_, by unfold f_X1_copy; rw [if_pos hp, if_pos hp], fun f j h5 hf hj => ?_, fun f j h => ?_⟩
  · subst hj
    match f, h5, hf with
    | 5, _, _ => exact uS
    | 6, _, _ => exact uS
    | 7, _, _ => exact uS
    | 8, _, _ => exact uS
    | 9, _, _ => exact uS
    | f + 10, _, h => exact absurd h (by omega)
  · by_cases hj : j = p
    · rw [uF (by omega), uF (by omega), uF (by omega), uF (by omega), uF (by omega)]
    · rw [uO9 hj, uO9 hj, uO9 hj, uO9 hj, uO9 hj]
theorem cp_S {N p : Nat} {σ T : mSt} (hp : p < 32) : ∃ T9, f_X3_copy N σ T p p = some ((), σ, T9) ∧ (∀ f j, 18 ≤ f → f < 21 → j = p → T9 f j = σ f j) ∧ (∀ f j, ¬ (18 ≤ f ∧ f < 21 ∧ j = p) → T9 f j = T f j) := by
  refine ⟨_, by unfold f_X3_copy; rw [if_pos hp, if_pos hp], fun f j h5 hf hj => ?_, fun f j h => ?_⟩
  · subst hj
    match f, h5, hf with
    | 18, _, _ => exact uS
    | 19, _, _ => exact uS
    | 20, _, _ => exact uS
    | f + 21, _, h => exact absurd h (by omega)
  · by_cases hj : j = p
    · rw [uF (by omega), uF (by omega), uF (by omega)]
    · rw [uO9 hj, uO9 hj, uO9 hj]
theorem cp_G {N g : Nat} {σ T : mSt} (hg : g < 16) : ∃ T9, f_X0_copy N σ T g g = some ((), σ, T9) ∧ (∀ f j, 10 ≤ f → f < 18 → j = g → T9 f j = σ f j) ∧ (∀ f j, 18 ≤ f → f < 21 → (j = 2 * g ∨ j = 2 * g + 1) → T9 f j = σ f j) ∧ (∀ f j, ¬ (10 ≤ f ∧ f < 18 ∧ j = g) → ¬ (18 ≤ f ∧ f < 21 ∧ (j = 2 * g ∨ j = 2 * g + 1)) → T9 f j = T f j) := by
  obtain ⟨T1, a1, a2, a3⟩ := cp_S (N := N) (σ := σ) (T := T) (p := 2 * g) (by omega)
  obtain ⟨T2, b1, b2, b3⟩ := cp_S (N := N) (σ := σ) (T := T1) (p := 2 * g + 1) (by omega)
  refine ⟨_, by unfold f_X0_copy; rw [if_pos hg, if_pos hg, a1]; simp only [bS]; rw [b1]; simp only [bS]; rfl, fun f j h5 hf hj => ?_, fun f j h5 hf hj => ?_, fun f j h h9 => ?_⟩
  · subst hj
    match f, h5, hf with
    | 10, _, _ => exact uS
    | 11, _, _ => exact uS
    | 12, _, _ => exact uS
    | 13, _, _ => exact uS
    | 14, _, _ => exact uS
    | 15, _, _ => exact uS
    | 16, _, _ => exact uS
    | 17, _, _ => exact uS
    | f + 18, _, h => exact absurd h (by omega)
  · rw [uF (by omega), uF (by omega), uF (by omega), uF (by omega), uF (by omega), uF (by omega), uF (by omega), uF (by omega)]
    by_cases e : j = 2 * g + 1
    · exact b2 f j h5 hf e
    · rw [b3 f j (by omega)]
      exact a2 f j h5 hf (by omega)
  · by_cases hj : 10 ≤ f ∧ f < 18
    · have hj9 : j ≠ g := fun e => h ⟨hj.1, hj.2, e⟩
      rw [uO9 hj9, uO9 hj9, uO9 hj9, uO9 hj9, uO9 hj9, uO9 hj9, uO9 hj9, uO9 hj9, b3 f j (by omega), a3 f j (by omega)]
    · rw [uF (by omega), uF (by omega), uF (by omega), uF (by omega), uF (by omega), uF (by omega), uF (by omega), uF (by omega), b3 f j (by omega), a3 f j (by omega)]
theorem run1 {S A : Type} {F : Nat → S → Int32 → A} {m : Nat} (R : Nat → S → Prop) (hs : ∀ k s, k < m → R k s → ∃ s', (∀ n, F (n + 1) s (nI k) = F n s' (nI (k + 1))) ∧ R (k + 1) s') {s : S} (h0 : R 0 s) : ∃ s', (∀ n, F (n + m) s 0 = F n s' (nI m)) ∧ R m s' := by
  obtain ⟨s9, -, a, -, r⟩ := lock (F := F) (G := fun (_ : Nat) (_ : Unit) (_ : Int32) => ()) (m := m) (fun k s _ => R k s) (fun k s t hk hR => by
    obtain ⟨s', e, r⟩ := hs k s hk hR
    exact ⟨s', (), e, fun _ => rfl, r⟩) (t := ()) h0 m (Nat.le_refl _)
  exact ⟨s9, a, r⟩
def cp0 (σ τ : mSt) : mSt := mUp (mUp (mUp (mUp (mUp (mUp (mUp τ 24 0 (σ 24 0)) 25 0 (σ 25 0)) 26 0 (σ 26 0)) 27 0 (σ 27 0)) 21 0 (σ 21 0)) 22 0 (σ 22 0)) 23 0 (σ 23 0)
theorem x_copy {N np nl ng B : Nat} {σ τ ρ : mSt} (h : Iv np nl ng B 16 σ ρ) (hN : 100 ≤ N) : ∃ τ9, f_X4_copy N σ τ = some ((), σ, τ9) ∧ Cp np nl ng σ τ τ9 := by
  have hp8 := h.hp
  have hl8 := h.hl
  have hg8 := h.hg
  have z0 : ∀ f j, f < 21 → cp0 σ τ f j = τ f j := fun f j hf => by unfold cp0; rw [uF (by omega), uF (by omega), uF (by omega), uF (by omega), uF (by omega), uF (by omega), uF (by omega)]
  have zs : ∀ f, 21 ≤ f → f < 28 → cp0 σ τ f 0 = σ f 0 := fun f h1 h2 => by
    match f, h1, h2 with
    | 21, _, _ => rfl
    | 22, _, _ => rfl
    | 23, _, _ => rfl
    | 24, _, _ => rfl
    | 25, _, _ => rfl
    | 26, _, _ => rfl
    | 27, _, _ => rfl
    | f + 28, _, h => exact absurd h (by omega)
  obtain ⟨T1, e1, p1, p2⟩ := run1 (F := fun n s i => f_X4_copy_58 N n σ s i) (m := np) (fun k s => (∀ f j, f < 5 → j < k → s f j = σ f j) ∧ (∀ f j, ¬ (f < 5 ∧ j < k) → s f j = cp0 σ τ f j)) (fun k s hk hR => by
    obtain ⟨r1, r2⟩ := hR
    obtain ⟨T9, a1, a2, a3⟩ := cp_P (N := N) (σ := σ) (T := s) (show k < 8 by omega)
    have c21 : s 21 0 = nI np := (r2 21 0 (by omega)).trans ((zs 21 (by omega) (by omega)).trans h.c21)
    refine ⟨T9, fun n => ?_, fun f j hf hj => ?_, fun f j hj => ?_⟩
    · show f_X4_copy_58 N (n + 1) σ s (nI k) = _
      rw [f_X4_copy_58, c21]
      simp only [leF rfl hk (show np < 1000 by omega), pAt hp8 c21 hk, pAt hp8 h.c21 hk, bS, oL, eq_true (show k < 8 by omega), a1, ↓reduceIte, nI_1]
    · by_cases e : j = k
      · exact a2 f j hf e
      · rw [a3 f j (by omega)]; exact r1 f j hf (by omega)
    · rw [a3 f j (by omega)]; exact r2 f j (by omega)) (s := cp0 σ τ) ⟨fun _ _ _ hj => absurd hj (by omega), fun _ _ _ => rfl⟩
  obtain ⟨T2, e2, q1, q2⟩ := run1 (F := fun n s i => f_X4_copy_87 N n σ s i) (m := nl) (fun k s => (∀ f j, 5 ≤ f → f < 10 → j < k → s f j = σ f j) ∧ (∀ f j, ¬ (5 ≤ f ∧ f < 10 ∧ j < k) → s f j = T1 f j)) (fun k s hk hR => by
    obtain ⟨r1, r2⟩ := hR
    obtain ⟨T9, a1, a2, a3⟩ := cp_L (N := N) (σ := σ) (T := s) (show k < 20 by omega)
    have c22 : s 22 0 = nI nl := (r2 22 0 (by omega)).trans ((p2 22 0 (by omega)).trans ((zs 22 (by omega) (by omega)).trans h.c22))
    refine ⟨T9, fun n => ?_, fun f j h5 hf hj => ?_, fun f j hj => ?_⟩
    · show f_X4_copy_87 N (n + 1) σ s (nI k) = _
      rw [f_X4_copy_87, c22]
      simp only [leF rfl hk (show nl < 1000 by omega), lAt hl8 c22 hk, lAt hl8 h.c22 hk, bS, oL, eq_true (show k < 20 by omega), a1, ↓reduceIte, nI_1]
    · by_cases e : j = k
      · exact a2 f j h5 hf e
      · rw [a3 f j (by omega)]; exact r1 f j h5 hf (by omega)
    · rw [a3 f j (by omega)]; exact r2 f j (by omega)) (s := T1) ⟨fun _ _ _ _ hj => absurd hj (by omega), fun _ _ _ => rfl⟩
  obtain ⟨T3, e3, w1, w2, w3⟩ := run1 (F := fun n s i => f_X4_copy_116 N n σ s i) (m := ng) (fun k s => (∀ f j, 10 ≤ f → f < 18 → j < k → s f j = σ f j) ∧ (∀ f j, 18 ≤ f → f < 21 → j < 2 * k → s f j = σ f j) ∧ (∀ f j, ¬ (10 ≤ f ∧ f < 18 ∧ j < k) → ¬ (18 ≤ f ∧ f < 21 ∧ j < 2 * k) → s f j = T2 f j)) (fun k s hk hR => by
    obtain ⟨r1, r2, r3⟩ := hR
    obtain ⟨T9, a1, a2, a3, a4⟩ := cp_G (N := N) (σ := σ) (T := s) (show k < 16 by omega)
    have c23 : s 23 0 = nI ng := (r3 23 0 (by omega) (by omega)).trans ((q2 23 0 (by omega)).trans ((p2 23 0 (by omega)).trans ((zs 23 (by omega) (by omega)).trans h.c23)))
    refine ⟨T9, fun n => ?_, fun f j h5 hf hj => ?_, fun f j h5 hf hj => ?_, fun f j hj hj9 => ?_⟩
    · show f_X4_copy_116 N (n + 1) σ s (nI k) = _
      rw [f_X4_copy_116, c23]
      simp only [leF rfl hk (show ng < 1000 by omega), gAt hg8 c23 hk, gAt hg8 h.c23 hk, bS, oL, eq_true (show k < 16 by omega), a1, ↓reduceIte, nI_1]
    · by_cases e : j = k
      · exact a2 f j h5 hf e
      · rw [a4 f j (by omega) (by omega)]; exact r1 f j h5 hf (by omega)
    · by_cases e : j = 2 * k ∨ j = 2 * k + 1
      · exact a3 f j h5 hf e
      · rw [a4 f j (by omega) (by omega)]; exact r2 f j h5 hf (by omega)
    · rw [a4 f j (by omega) (by omega)]; exact r3 f j (by omega) (by omega)) (s := T2) ⟨fun _ _ _ _ hj => absurd hj (by omega), fun _ _ _ _ hj => absurd hj (by omega), fun _ _ _ _ => rfl⟩
  refine ⟨T3, ?_, fun f p hf hp => ?_, fun f k h1 h2 hk => ?_, fun f g h1 h2 hg => w1 f g h1 h2 hg, fun f i h1 h2 hi => w2 f i h1 h2 hi, fun f h1 h2 => ?_, fun f p hf hp => ?_, fun k hk => ?_, fun g hg => ?_⟩
  · have a1 : f_X4_copy_58 N N σ (cp0 σ τ) 0 = f_X4_copy_87 N N σ T1 0 := by
      obtain ⟨n, hn⟩ : ∃ n, N = n + 1 + np := ⟨N - 1 - np, by omega⟩
      have a : f_X4_copy_58 N (n + 1 + np) σ (cp0 σ τ) 0 = f_X4_copy_58 N (n + 1) σ T1 (nI np) := e1 (n + 1)
      rw [← hn] at a
      rw [a, f_X4_copy_58, p2 21 0 (by omega), zs 21 (by omega) (by omega), h.c21, if_pos (Int32.le_refl _)]
    have a2 : f_X4_copy_87 N N σ T1 0 = f_X4_copy_116 N N σ T2 0 := by
      obtain ⟨n, hn⟩ : ∃ n, N = n + 1 + nl := ⟨N - 1 - nl, by omega⟩
      have a : f_X4_copy_87 N (n + 1 + nl) σ T1 0 = f_X4_copy_87 N (n + 1) σ T2 (nI nl) := e2 (n + 1)
      rw [← hn] at a
      rw [a, f_X4_copy_87, q2 22 0 (by omega), p2 22 0 (by omega), zs 22 (by omega) (by omega), h.c22, if_pos (Int32.le_refl _)]
    have a3 : f_X4_copy_116 N N σ T2 0 = some ((), σ, T3) := by
      obtain ⟨n, hn⟩ : ∃ n, N = n + 1 + ng := ⟨N - 1 - ng, by omega⟩
      have a : f_X4_copy_116 N (n + 1 + ng) σ T2 0 = f_X4_copy_116 N (n + 1) σ T3 (nI ng) := e3 (n + 1)
      rw [← hn] at a
      rw [a, f_X4_copy_116, w3 23 0 (by omega) (by omega), q2 23 0 (by omega), p2 23 0 (by omega), zs 23 (by omega) (by omega), h.c23, if_pos (Int32.le_refl _)]
    unfold f_X4_copy
    exact a1.trans (a2.trans a3)
  · rw [w3 f p (by omega) (by omega), q2 f p (by omega)]; exact p1 f p hf hp
  · rw [w3 f k (by omega) (by omega)]; exact q1 f k h1 h2 hk
  · rw [w3 f 0 (by omega) (by omega), q2 f 0 (by omega), p2 f 0 (by omega)]; exact zs f h1 h2
  · rw [w3 f p (by omega) (by omega), q2 f p (by omega), p2 f p (by omega)]; exact z0 f p (by omega)
  · rw [w3 9 k (by omega) (by omega), q2 9 k (by omega), p2 9 k (by omega)]; exact z0 9 k (by omega)
  · rw [w3 17 g (by omega) (by omega), q2 17 g (by omega), p2 17 g (by omega)]; exact z0 17 g (by omega)
def bec (ρ α : mSt) : mSt := mCp (mCp (mCp (mCp (mCp (mCp (mCp (mCp (mCp (mCp (mCp (mCp (mCp (mCp (mCp (mCp (mCp (mCp (mCp (mCp (mUp (mUp (mUp (mUp (mUp (mUp (mUp α 20 0 (ρ 20 0)) 21 0 (ρ 21 0)) 22 0 (ρ 22 0)) 23 0 (ρ 23 0)) 24 0 (ρ 24 0)) 25 0 (ρ 25 0)) 26 0 (ρ 26 0)) 0 ρ) 1 ρ) 2 ρ) 3 ρ) 4 ρ) 5 ρ) 6 ρ) 7 ρ) 8 ρ) 9 ρ) 10 ρ) 11 ρ) 12 ρ) 13 ρ) 14 ρ) 15 ρ) 16 ρ) 17 ρ) 18 ρ) 19 ρ
theorem mCp_o {α ρ : mSt} {a f j : Nat} (h : f ≠ a) : mCp α a ρ f j = α f j := by unfold mCp; rw [if_neg (fun e => h e.1)]
theorem mCp_s {α ρ : mSt} {f j : Nat} (h : j < mLen f) : mCp α f ρ f j = ρ f j := by unfold mCp; rw [if_pos ⟨rfl, h⟩]
theorem x_bec {N : Nat} {th : Int32} {ρ α : mSt} : f_X6_become N th ρ α = some ((), th, ρ, bec ρ α) := by
  unfold f_X6_become f_X6_copy
  simp only [show (0 : Nat) < 20 by omega, show (1 : Nat) < 20 by omega, show (2 : Nat) < 20 by omega, show (3 : Nat) < 20 by omega, show (4 : Nat) < 20 by omega, show (5 : Nat) < 20 by omega, show (6 : Nat) < 20 by omega, show (7 : Nat) < 20 by omega, show (8 : Nat) < 20 by omega, show (9 : Nat) < 20 by omega, show (10 : Nat) < 20 by omega, show (11 : Nat) < 20 by omega, show (12 : Nat) < 20 by omega, show (13 : Nat) < 20 by omega, show (14 : Nat) < 20 by omega, show (15 : Nat) < 20 by omega, show (16 : Nat) < 20 by omega, show (17 : Nat) < 20 by omega, show (18 : Nat) < 20 by omega, show (19 : Nat) < 20 by omega, if_true, bS]
  rfl
theorem bec_A {ρ α : mSt} : ∀ f j, f < 20 → j < mLen f → bec ρ α f j = ρ f j := by
  intro f j hf hj
  unfold bec
  match f, hf with
  | 0, _ => rw [mCp_o (by omega), mCp_o (by omega), mCp_o (by omega), mCp_o (by omega), mCp_o (by omega), mCp_o (by omega), mCp_o (by omega), mCp_o (by omega), mCp_o (by omega), mCp_o (by omega), mCp_o (by omega), mCp_o (by omega), mCp_o (by omega), mCp_o (by omega), mCp_o (by omega), mCp_o (by omega), mCp_o (by omega), mCp_o (by omega), mCp_o (by omega), mCp_s hj]
  | 1, _ => rw [mCp_o (by omega), mCp_o (by omega), mCp_o (by omega), mCp_o (by omega), mCp_o (by omega), mCp_o (by omega), mCp_o (by omega), mCp_o (by omega), mCp_o (by omega), mCp_o (by omega), mCp_o (by omega), mCp_o (by omega), mCp_o (by omega), mCp_o (by omega), mCp_o (by omega), mCp_o (by omega), mCp_o (by omega), mCp_o (by omega), mCp_s hj]
  | 2, _ => rw [mCp_o (by omega), mCp_o (by omega), mCp_o (by omega), mCp_o (by omega), mCp_o (by omega), mCp_o (by omega), mCp_o (by omega), mCp_o (by omega), mCp_o (by omega), mCp_o (by omega), mCp_o (by omega), mCp_o (by omega), mCp_o (by omega), mCp_o (by omega), mCp_o (by omega), mCp_o (by omega), mCp_o (by omega), mCp_s hj]
  | 3, _ => rw [mCp_o (by omega), mCp_o (by omega), mCp_o (by omega), mCp_o (by omega), mCp_o (by omega), mCp_o (by omega), mCp_o (by omega), mCp_o (by omega), mCp_o (by omega), mCp_o (by omega), mCp_o (by omega), mCp_o (by omega), mCp_o (by omega), mCp_o (by omega), mCp_o (by omega), mCp_o (by omega), mCp_s hj]
  | 4, _ => rw [mCp_o (by omega), mCp_o (by omega), mCp_o (by omega), mCp_o (by omega), mCp_o (by omega), mCp_o (by omega), mCp_o (by omega), mCp_o (by omega), mCp_o (by omega), mCp_o (by omega), mCp_o (by omega), mCp_o (by omega), mCp_o (by omega), mCp_o (by omega), mCp_o (by omega), mCp_s hj]
  | 5, _ => rw [mCp_o (by omega), mCp_o (by omega), mCp_o (by omega), mCp_o (by omega), mCp_o (by omega), mCp_o (by omega), mCp_o (by omega), mCp_o (by omega), mCp_o (by omega), mCp_o (by omega), mCp_o (by omega), mCp_o (by omega), mCp_o (by omega), mCp_o (by omega), mCp_s hj]
  | 6, _ => rw [mCp_o (by omega), mCp_o (by omega), mCp_o (by omega), mCp_o (by omega), mCp_o (by omega), mCp_o (by omega), mCp_o (by omega), mCp_o (by omega), mCp_o (by omega), mCp_o (by omega), mCp_o (by omega), mCp_o (by omega), mCp_o (by omega), mCp_s hj]
  | 7, _ => rw [mCp_o (by omega), mCp_o (by omega), mCp_o (by omega), mCp_o (by omega), mCp_o (by omega), mCp_o (by omega), mCp_o (by omega), mCp_o (by omega), mCp_o (by omega), mCp_o (by omega), mCp_o (by omega), mCp_o (by omega), mCp_s hj]
  | 8, _ => rw [mCp_o (by omega), mCp_o (by omega), mCp_o (by omega), mCp_o (by omega), mCp_o (by omega), mCp_o (by omega), mCp_o (by omega), mCp_o (by omega), mCp_o (by omega), mCp_o (by omega), mCp_o (by omega), mCp_s hj]
  | 9, _ => rw [mCp_o (by omega), mCp_o (by omega), mCp_o (by omega), mCp_o (by omega), mCp_o (by omega), mCp_o (by omega), mCp_o (by omega), mCp_o (by omega), mCp_o (by omega), mCp_o (by omega), mCp_s hj]
  | 10, _ => rw [mCp_o (by omega), mCp_o (by omega), mCp_o (by omega), mCp_o (by omega), mCp_o (by omega), mCp_o (by omega), mCp_o (by omega), mCp_o (by omega), mCp_o (by omega), mCp_s hj]
  | 11, _ => rw [mCp_o (by omega), mCp_o (by omega), mCp_o (by omega), mCp_o (by omega), mCp_o (by omega), mCp_o (by omega), mCp_o (by omega), mCp_o (by omega), mCp_s hj]
  | 12, _ => rw [mCp_o (by omega), mCp_o (by omega), mCp_o (by omega), mCp_o (by omega), mCp_o (by omega), mCp_o (by omega), mCp_o (by omega), mCp_s hj]
  | 13, _ => rw [mCp_o (by omega), mCp_o (by omega), mCp_o (by omega), mCp_o (by omega), mCp_o (by omega), mCp_o (by omega), mCp_s hj]
  | 14, _ => rw [mCp_o (by omega), mCp_o (by omega), mCp_o (by omega), mCp_o (by omega), mCp_o (by omega), mCp_s hj]
  | 15, _ => rw [mCp_o (by omega), mCp_o (by omega), mCp_o (by omega), mCp_o (by omega), mCp_s hj]
  | 16, _ => rw [mCp_o (by omega), mCp_o (by omega), mCp_o (by omega), mCp_s hj]
  | 17, _ => rw [mCp_o (by omega), mCp_o (by omega), mCp_s hj]
  | 18, _ => rw [mCp_o (by omega), mCp_s hj]
  | 19, _ => rw [mCp_s hj]
  | f + 20, h => exact absurd h (by omega)
theorem bec_S {ρ α : mSt} : ∀ f, 20 ≤ f → f < 27 → bec ρ α f 0 = ρ f 0 := by
  intro f h1 h2
  unfold bec
  rw [mCp_o (by omega), mCp_o (by omega), mCp_o (by omega), mCp_o (by omega), mCp_o (by omega), mCp_o (by omega), mCp_o (by omega), mCp_o (by omega), mCp_o (by omega), mCp_o (by omega), mCp_o (by omega), mCp_o (by omega), mCp_o (by omega), mCp_o (by omega), mCp_o (by omega), mCp_o (by omega), mCp_o (by omega), mCp_o (by omega), mCp_o (by omega), mCp_o (by omega)]
  match f, h1, h2 with
  | 20, _, _ => rfl
  | 21, _, _ => rfl
  | 22, _, _ => rfl
  | 23, _, _ => rfl
  | 24, _, _ => rfl
  | 25, _, _ => rfl
  | 26, _, _ => rfl
  | f + 27, _, h => exact absurd h (by omega)
