/-! ===== a second: the clocks ===== -/
theorem lock {S T A C : Type} {F : Nat → S → Int32 → A} {G : Nat → T → Int32 → C} {m : Nat} (R : Nat → S → T → Prop) (hs : ∀ k s t, k < m → R k s t → ∃ s' t', (∀ n, F (n + 1) s (nI k) = F n s' (nI (k + 1))) ∧ (∀ n, G (n + 1) t (nI k) = G n t' (nI (k + 1))) ∧ R (k + 1) s' t') {s : S} {t : T} (h0 : R 0 s t) : ∀ k, k ≤ m → ∃ s' t', (∀ n, F (n + k) s 0 = F n s' (nI k)) ∧ (∀ n, G (n + k) t 0 = G n t' (nI k)) ∧ R k s' t' := by
  intro k
  induction k with
  | zero => intro _; exact ⟨s, t, fun _ => rfl, fun _ => rfl, h0⟩
  | succ k ih =>
    intro hk
    obtain ⟨s1, t1, e1, e2, r⟩ := ih (by omega)
    obtain ⟨s2, t2, e3, e4, r2⟩ := hs k s1 t1 (by omega) r
    refine ⟨s2, t2, fun n => ?_, fun n => ?_, r2⟩
    · rw [show n + (k + 1) = (n + 1) + k by omega, e1, e3]
    · rw [show n + (k + 1) = (n + 1) + k by omega, e2, e4]
theorem idle {S A : Type} {F : Nat → S → Int32 → A} {m M : Nat} {s : S} (hi : ∀ n k, m ≤ k → k < M → F (n + 1) s (nI k) = F n s (nI (k + 1))) : ∀ d, m + d ≤ M → ∀ n, F (n + d) s (nI m) = F n s (nI (m + d)) := by
  intro d
  induction d with
  | zero => intro _ n; rfl
  | succ d ih =>
    intro hd n
    rw [show n + (d + 1) = (n + 1) + d by omega, ih (by omega), hi n (m + d) (by omega) (by omega)]
    rfl
/-- what k games' clocks did to the record of falls -/
def Ev (k : Nat) (σ0 σ : mSt) (m : Nat) : Prop :=
  m ≤ k ∧ σ 28 0 = σ0 28 0 + nI m ∧ σ 29 0 = σ0 29 0 ∧ σ 24 0 = σ0 24 0 ∧ (∀ j, σ 9 j = σ0 9 j) ∧ (∀ g, σ0 17 g ≠ 0 → σ 17 g = σ0 17 g) ∧ (∀ g, k ≤ g → σ 17 g = σ0 17 g) ∧ (m = 0 → σ 30 0 = σ0 30 0 ∧ σ 31 0 = σ0 31 0 ∧ ∀ g, σ 17 g = σ0 17 g) ∧ (σ0 28 0 = 0 → 0 < m → ∃ g, g < k ∧ σ 30 0 = nI g ∧ σ 31 0 = σ0 24 0 ∧ σ0 17 g = 0 ∧ σ 17 g ≠ 0 ∧ ∀ q, q < g → σ 17 q = σ0 17 q) ∧ (0 < (σ0 28 0).toInt → σ 30 0 = σ0 30 0 ∧ σ 31 0 = σ0 31 0)
theorem Ev.zero {σ : mSt} : Ev 0 σ σ 0 := ⟨Nat.le_refl _, (Int32.add_zero _).symm, rfl, rfl, fun _ => rfl, fun _ _ => rfl, fun _ _ => rfl, fun _ => ⟨rfl, rfl, fun _ => rfl⟩, fun _ h => absurd h (by omega), fun _ => ⟨rfl, rfl⟩⟩
/-- nothing fell -/
theorem Ev.same {k m : Nat} {σ0 σ σ9 : mSt} (h : Ev k σ0 σ m) (e : ∀ f j, f ≠ 16 → f ≠ 19 → σ9 f j = σ f j) : Ev (k + 1) σ0 σ9 m := by
  obtain ⟨h1, h2, h3, h4, h5, h6, h7, h8, h9, h10⟩ := h
  have e17 : ∀ g, σ9 17 g = σ 17 g := fun g => e 17 g (by omega) (by omega)
  refine ⟨by omega, (e 28 0 (by omega) (by omega)).trans h2, (e 29 0 (by omega) (by omega)).trans h3, (e 24 0 (by omega) (by omega)).trans h4, fun j => (e 9 j (by omega) (by omega)).trans (h5 j), fun g hg => (e17 g).trans (h6 g hg), fun g hg => (e17 g).trans (h7 g (by omega)), fun hm => ?_, fun h0 hm => ?_, fun h0 => ?_⟩
  · obtain ⟨a, b, c⟩ := h8 hm
    exact ⟨(e 30 0 (by omega) (by omega)).trans a, (e 31 0 (by omega) (by omega)).trans b, fun g => (e17 g).trans (c g)⟩
  · obtain ⟨g, a, b, c, d, i, j⟩ := h9 h0 hm
    exact ⟨g, by omega, (e 30 0 (by omega) (by omega)).trans b, (e 31 0 (by omega) (by omega)).trans c, d, fun q => i ((e17 g).symm.trans q), fun q hq => (e17 q).trans (j q hq)⟩
  · obtain ⟨a, b⟩ := h10 h0
    exact ⟨(e 30 0 (by omega) (by omega)).trans a, (e 31 0 (by omega) (by omega)).trans b⟩
/-- the game k fell -/
theorem Ev.fall {k m : Nat} {σ0 σ σ9 : mSt} (h : Ev k σ0 σ m) (hk : k < 1000) (hf : 0 ≤ (σ0 28 0).toInt ∧ (σ0 28 0).toInt ≤ 1000000) (c : σ 17 k = 0) (f28 : σ9 28 0 = σ 28 0 + 1) (f29 : σ9 29 0 = σ 29 0) (f24 : σ9 24 0 = σ 24 0) (f9 : ∀ j, σ9 9 j = σ 9 j) (f17 : ∀ j, j ≠ k → σ9 17 j = σ 17 j) (f17k : σ9 17 k ≠ 0) (r0 : σ 28 0 = 0 → σ9 30 0 = nI k ∧ σ9 31 0 = σ 24 0) (r1 : ¬ σ 28 0 = 0 → σ9 30 0 = σ 30 0 ∧ σ9 31 0 = σ 31 0) : Ev (k + 1) σ0 σ9 (m + 1) := by
  obtain ⟨h1, h2, h3, h4, h5, h6, h7, h8, h9, h10⟩ := h
  have hc0 : σ0 17 k = 0 := (h7 k (Nat.le_refl _)).symm.trans c
  refine ⟨by omega, by rw [f28, h2, Int32.add_assoc, nI_1], f29.trans h3, f24.trans h4, fun j => (f9 j).trans (h5 j), fun g hg => ?_, fun g hg => (f17 g (by omega)).trans (h7 g (by omega)), fun hm => absurd hm (by omega), fun h0 hm => ?_, fun h0 => ?_⟩
  · exact (f17 g (fun e => hg (by rw [e]; exact hc0))).trans (h6 g hg)
  · by_cases e : m = 0
    · subst e
      have e28 : σ 28 0 = 0 := by rw [h2, h0]; rfl
      obtain ⟨a, b⟩ := r0 e28
      obtain ⟨-, -, q⟩ := h8 rfl
      exact ⟨k, by omega, a, b.trans h4, hc0, f17k, fun g hg => (f17 g (by omega)).trans (q g)⟩
    · have e28 : ¬ σ 28 0 = 0 := by
        rw [h2, h0, Int32.zero_add]
        exact nI_ne0 (by omega) (by omega)
      obtain ⟨a, b⟩ := r1 e28
      obtain ⟨g, q1, q2, q3, q4, q5, q6⟩ := h9 h0 (by omega)
      exact ⟨g, by omega, a.trans q2, b.trans q3, q4, by rw [f17 g (by omega)]; exact q5, fun j hj => (f17 j (by omega)).trans (q6 j hj)⟩
  · have e28 : ¬ σ 28 0 = 0 := fun e => by
      have a := addI (a := σ0 28 0) (b := nI m) (by rw [nIt (by omega)]; omega)
      rw [← h2, e, t0, nIt (by omega)] at a
      omega
    obtain ⟨a, b⟩ := r1 e28
    obtain ⟨q1, q2⟩ := h10 h0
    exact ⟨a.trans q1, b.trans q2⟩
theorem tick_a {N k : Nat} {σ : mSt} (hk : k < 16) (h : σ 16 k + 1 ≤ σ 12 k) (ht : σ 14 k = 0 ∨ σ 14 k = 1) (h0 : σ 19 (2 * k) ≠ 0) (h1 : σ 19 (2 * k + 1) ≠ 0) : f_X0_tick N σ k = some (0, mUp σ 16 k (σ 16 k + 1)) := by
  unfold f_X0_tick f_X0_tick_34 f_X0_mover f_X0_sideAt
  have z : ¬ (1 : Int32) = 0 := by decide
  have l0 : (2 * k < 32) = True := eq_true (by omega)
  have l1 : (2 * k + 1 < 32) = True := eq_true (by omega)
  rcases ht with ht | ht
  · simp only [eq_true hk, uX, Nat.reduceEqDiff, false_and, and_false, and_self, h, ht, l0, h0, bS, ↓reduceIte]
  · simp only [eq_true hk, uX, Nat.reduceEqDiff, false_and, and_false, and_self, h, ht, z, l1, h1, bS, ↓reduceIte]
theorem tick_b {N k t : Nat} {σ : mSt} (hk : k < 16) (h : ¬ σ 16 k + 1 ≤ σ 12 k) (ht2 : t < 2) (ht : σ 14 k = nI t) : f_X0_tick N σ k = some (if σ 19 (2 * k + t) - 1 = 0 then 1 else 0, mUp (mUp σ 16 k (σ 16 k + 1)) 19 (2 * k + t) (σ 19 (2 * k + t) - 1)) := by
  unfold f_X0_tick f_X0_tick_34 f_X0_mover f_X0_sideAt
  have z : ¬ (1 : Int32) = 0 := by decide
  have k1 : (nI 0 : Int32) = 0 := rfl
  have k2 : (nI 1 : Int32) = 1 := rfl
  have l0 : (2 * k < 32) = True := eq_true (by omega)
  have l1 : (2 * k + 1 < 32) = True := eq_true (by omega)
  match t, ht2 with
  | 0, _ =>
    rw [k1] at ht
    by_cases c : σ 19 (2 * k) - 1 = 0
    · simp only [eq_true hk, uX, Nat.reduceEqDiff, false_and, and_false, and_self, h, ht, l0, bS, ↓reduceIte, Nat.add_zero, eq_true c]
    · simp only [eq_true hk, uX, Nat.reduceEqDiff, false_and, and_false, and_self, h, ht, l0, bS, ↓reduceIte, Nat.add_zero, c]
  | 1, _ =>
    rw [k2] at ht
    by_cases c : σ 19 (2 * k + 1) - 1 = 0
    · simp only [eq_true hk, uX, Nat.reduceEqDiff, false_and, and_false, and_self, h, ht, z, l1, bS, ↓reduceIte, eq_true c]
    · simp only [eq_true hk, uX, Nat.reduceEqDiff, false_and, and_false, and_self, h, ht, z, l1, bS, ↓reduceIte, c]
  | t + 2, h => exact absurd h (by omega)
theorem idx_t {k t : Nat} (ht : t < 2) (hk : k < 16) : 2 * nI k + nI t = nI (2 * k + t) ∧ mIn (nI (2 * k + t)) 32 ∧ (nI (2 * k + t)).toNatClampNeg = 2 * k + t ∧ (1 : Int32) - nI t = nI (1 - t) := by
  refine ⟨by rw [two_nI, nI_add], mI_in (by omega) (by omega), cl (by omega), ?_⟩
  match t, ht with
  | 0, _ => rfl
  | 1, _ => rfl
  | t + 2, h => exact absurd h (by omega)
theorem p14_skip {N np nl ng B x k n : Nat} {σ ρ : mSt} {v : Int32} (h : Iv np nl ng B x σ ρ) (hk : k < ng) (c : ¬ σ 17 k = 0) : f_X6_pass_14 N (n + 1) ρ v (nI k) = f_X6_pass_14 N n ρ v (nI (k + 1)) := by
  have hg8 := h.hg
  rw [f_X6_pass_14, h.d22]
  simp only [leF rfl hk (show ng < 1000 by omega), r_runs h hk, c, bS, ↓reduceIte, nI_1]
theorem p14_wait {N np nl ng B x k n : Nat} {σ ρ : mSt} {v : Int32} (h : Iv np nl ng B x σ ρ) (hk : k < ng) (c : σ 17 k = 0) (c2 : σ 16 k + 1 ≤ σ 12 k) : f_X6_pass_14 N (n + 1) ρ v (nI k) = f_X6_pass_14 N n (mUp ρ 13 k (σ 16 k + 1)) v (nI (k + 1)) := by
  have hg8 := h.hg
  rw [f_X6_pass_14, h.d22]
  simp only [leF rfl hk (show ng < 1000 by omega), r_runs h hk, c, bS, one0, ↓reduceIte, nI_1, mI_t (show k < 16 by omega) (show 16 < 1000 by omega), cl (show k < 1000 by omega), uX, Nat.reduceEqDiff, false_and, and_self, h.e13 k hk, h.e9 k hk, Int32.not_lt.mpr c2]
theorem p14_go {N np nl ng B x k n t : Nat} {σ ρ : mSt} {v : Int32} (h : Iv np nl ng B x σ ρ) (hk : k < ng) (c : σ 17 k = 0) (c2 : ¬ σ 16 k + 1 ≤ σ 12 k) (ht : t < 2) (htt : σ 14 k = nI t) : f_X6_pass_14 N (n + 1) ρ v (nI k) = (if σ 19 (2 * k + t) - 1 ≤ 0 then (f_X6_win N (mUp (mUp ρ 13 k (σ 16 k + 1)) 6 (2 * k + t) (σ 19 (2 * k + t) - 1)) (nI k) (nI (1 - t))).bind (fun q => f_X6_pass_14 N n q.2 (v + 1) (nI (k + 1))) else f_X6_pass_14 N n (mUp (mUp ρ 13 k (σ 16 k + 1)) 6 (2 * k + t) (σ 19 (2 * k + t) - 1)) v (nI (k + 1))) := by
  have hg8 := h.hg
  obtain ⟨e1, e2, e3, e4⟩ := idx_t ht (show k < 16 by omega)
  have e2 := eq_true e2
  rw [f_X6_pass_14, h.d22]
  simp only [leF rfl hk (show ng < 1000 by omega), r_runs h hk, c, bS, one0, ↓reduceIte, nI_1, mI_t (show k < 16 by omega) (show 16 < 1000 by omega), cl (show k < 1000 by omega), uX, Nat.reduceEqDiff, false_and, and_self, h.e13 k hk, h.e9 k hk, h.e11 k hk, Int32.not_le.mp c2, htt, e1, e2, e3, e4, h.e6 (2 * k + t) (by omega)]
theorem rc_skip {N np nl ng B x k n : Nat} {σ ρ : mSt} (h : Iv np nl ng B x σ ρ) (hk : k < 16) (c : ¬ σ 17 k = 0) : f_X4_runClocks_10 N (n + 1) σ (nI k) = f_X4_runClocks_10 N n σ (nI (k + 1)) := by
  rw [f_X4_runClocks_10]
  unfold f_X0_runs
  simp only [leF (n := 16) (c := 16) rfl hk (by decide), mI_t hk (show 16 < 1000 by omega), cl (show k < 1000 by omega), c, bS, ↓reduceIte, eq_true hk, nI_1]
theorem rc_tick {N k n : Nat} {σ σ1 : mSt} (hk : k < 16) (c : σ 17 k = 0) (e : f_X0_tick N σ k = some (0, σ1)) : f_X4_runClocks_10 N (n + 1) σ (nI k) = f_X4_runClocks_10 N n σ1 (nI (k + 1)) := by
  rw [f_X4_runClocks_10]
  unfold f_X0_runs
  simp only [leF (n := 16) (c := 16) rfl hk (by decide), mI_t hk (show 16 < 1000 by omega), cl (show k < 1000 by omega), c, bS, one0, e, ↓reduceIte, eq_true hk, nI_1]
theorem rc_fall {N k n t : Nat} {σ σ1 σ2 σ3 : mSt} {v : Int32} (hk : k < 16) (c : σ 17 k = 0) (e : f_X0_tick N σ k = some (1, σ1)) (e2 : f_X4_noteFall N σ1 k = some ((), σ2)) (e3 : σ2 14 k = nI t) (ht : t < 2) (e4 : f_X4_awardTo N σ2 k (nI (1 - t)) = some (v, σ3)) : f_X4_runClocks_10 N (n + 1) σ (nI k) = f_X4_runClocks_10 N n σ3 (nI (k + 1)) := by
  obtain ⟨-, -, -, e5⟩ := idx_t ht hk
  rw [f_X4_runClocks_10]
  unfold f_X0_runs
  simp only [leF (n := 16) (c := 16) rfl hk (by decide), mI_t hk (show 16 < 1000 by omega), cl (show k < 1000 by omega), c, bS, one0, e, e2, e3, e4, e5, ↓reduceIte, eq_true hk, nI_1]
theorem clk_step {N np nl ng B k m : Nat} {σ0 σ ρ : mSt} {v : Int32} (hB : B + 2 * k ≤ 21900000) (h : Iv np nl ng (B + 2 * k) 16 σ ρ) (hE : Ev k σ0 σ m) (hf : 0 ≤ (σ0 28 0).toInt ∧ (σ0 28 0).toInt ≤ 1000000) (hk : k < ng) : ∃ σ9 ρ9 v9 m9, (∀ n, f_X4_runClocks_10 N (n + 1) σ (nI k) = f_X4_runClocks_10 N n σ9 (nI (k + 1))) ∧ (∀ n, f_X6_pass_14 N (n + 1) ρ v (nI k) = f_X6_pass_14 N n ρ9 v9 (nI (k + 1))) ∧ Iv np nl ng (B + 2 * (k + 1)) 16 σ9 ρ9 ∧ Ev (k + 1) σ0 σ9 m9 ∧ v9 + nI m = v + nI m9 := by
  have hg8 := h.hg
  have hk16 : k < 16 := by omega
  have h1 := iv_B h (B9 := B + 2 * k + 1) (by omega)
  by_cases c : σ 17 k = 0
  · obtain ⟨b1, b2, b3⟩ := h.b19 k hk (by omega) c
    have bs := h.b16 k hk
    have es := addI (a := σ 16 k) (b := 1) (by rw [t1]; omega)
    rw [t1] at es
    have i16 := iv_16 h1 (v := σ 16 k + 1) hk (by rw [es]; omega)
    have nz : ∀ i, 1 ≤ (σ 19 i).toInt → σ 19 i ≠ 0 := fun i hi e => by rw [e, t0] at hi; omega
    by_cases c2 : σ 16 k + 1 ≤ σ 12 k
    · exact ⟨_, _, v, m, fun n => rc_tick hk16 c (tick_a hk16 c2 (h.tu k hk) (nz _ b1) (nz _ b2)), fun n => p14_wait h hk c c2, iv_B i16 (by omega), hE.same (fun f j h16 _ => uF h16), rfl⟩
    · have ht : ∃ t, t < 2 ∧ σ 14 k = nI t := by
        rcases h.tu k hk with e | e
        · exact ⟨0, by omega, e⟩
        · exact ⟨1, by omega, e⟩
      obtain ⟨t, ht, htt⟩ := ht
      have tk := tick_b (N := N) hk16 c2 ht htt
      have bi : 1 ≤ (σ 19 (2 * k + t)).toInt ∧ (σ 19 (2 * k + t)).toInt ≤ 14400 + (B + 2 * k : Nat) := by
        match t, ht with
        | 0, _ => exact ⟨b1, by show (σ 19 (2 * k)).toInt ≤ _; omega⟩
        | 1, _ => exact ⟨b2, by omega⟩
        | t + 2, h => exact absurd h (by omega)
      have ec := subI (a := σ 19 (2 * k + t)) (b := 1) (by rw [t1]; omega)
      rw [t1] at ec
      have i19 : ∀ x9, (x9 = k ∨ 1 ≤ (σ 19 (2 * k + t) - 1).toInt) → Iv np nl ng (B + 2 * k + 1) x9 (mUp (mUp σ 16 k (σ 16 k + 1)) 19 (2 * k + t) (σ 19 (2 * k + t) - 1)) (mUp (mUp ρ 13 k (σ 16 k + 1)) 6 (2 * k + t) (σ 19 (2 * k + t) - 1)) := fun x9 hx => by
        match t, ht with
        | 0, _ =>
          refine iv_19a (x9 := x9) (g := k) i16 (fun q hq _ => by omega) (fun hne _ _ => ?_)
          have this : 1 ≤ (σ 19 (2 * k) - 1).toInt := hx.resolve_left (fun e => hne e.symm)
          have ec : (σ 19 (2 * k) - 1).toInt = (σ 19 (2 * k)).toInt - 1 := ec
          show 1 ≤ (σ 19 (2 * k) - 1).toInt ∧ (σ 19 (2 * k) - 1).toInt + (σ 19 (2 * k + 1)).toInt ≤ _
          omega
        | 1, _ =>
          refine iv_19b (x9 := x9) (g := k) i16 (fun q hq _ => by omega) (fun hne _ _ => ?_)
          have this : 1 ≤ (σ 19 (2 * k + 1) - 1).toInt := hx.resolve_left (fun e => hne e.symm)
          show 1 ≤ (σ 19 (2 * k + 1) - 1).toInt ∧ (σ 19 (2 * k)).toInt + (σ 19 (2 * k + 1) - 1).toInt ≤ _
          omega
        | t + 2, h => exact absurd h (by omega)
      have p14 := fun n => p14_go (N := N) (n := n) (v := v) h hk c c2 ht htt
      by_cases c3 : σ 19 (2 * k + t) - 1 = 0
      · rw [if_pos c3] at tk
        have c4 : σ 19 (2 * k + t) - 1 ≤ 0 := by rw [c3]; exact Int32.le_refl _
        have ia := i19 k (Or.inl rfl)
        have e14 : ∀ (s1 : mSt) (a b d : Int32), (mUp s1 28 0 a) 14 k = s1 14 k := fun _ _ _ _ => rfl
        by_cases c5 : σ 28 0 = 0
        · have e2 : f_X4_noteFall N (mUp (mUp σ 16 k (σ 16 k + 1)) 19 (2 * k + t) (σ 19 (2 * k + t) - 1)) k = some ((), mUp (mUp (mUp (mUp (mUp σ 16 k (σ 16 k + 1)) 19 (2 * k + t) (σ 19 (2 * k + t) - 1)) 30 0 (nI k)) 31 0 (σ 24 0)) 28 0 (σ 28 0 + 1)) := by
            unfold f_X4_noteFall
            simp only [eq_true hk16, uX, Nat.reduceEqDiff, false_and, and_false, eq_true c5, h.nu k hk, ↓reduceIte]
          have ib := iv_28 (iv_31 (iv_30 ia (nI k)) (σ 24 0)) (σ 28 0 + 1)
          obtain ⟨w, σ9, ρ9, a1, a2, a3, a4, a5, a6⟩ := win_sp (N := N) (s := 1 - t) (x9 := 16) ib (by omega) hk (by omega) (fun q _ _ hne => hne)
          refine ⟨σ9, ρ9, v + 1, m + 1, fun n => rc_fall hk16 c tk e2 htt ht a1, fun n => ?_, iv_B a3 (by omega), ?_, by rw [← nI_1, Int32.add_assoc, Int32.add_comm 1]⟩
          · rw [p14 n, if_pos c4, a2]
            rfl
          · refine hE.fall (by omega) hf c ((a4 28 0 (by omega) (by omega) (by omega) (by omega) (by omega)).trans uS) ((a4 29 0 (by omega) (by omega) (by omega) (by omega) (by omega)).trans rfl) ((a4 24 0 (by omega) (by omega) (by omega) (by omega) (by omega)).trans rfl) (fun j => (a4 9 j (by omega) (by omega) (by omega) (by omega) (by omega)).trans ((uF (by omega)).trans ((uF (by omega)).trans ((uF (by omega)).trans ((uF (by omega)).trans (uF (by omega))))))) (fun j hj => (a5 j hj).trans ((uF (by omega)).trans ((uF (by omega)).trans ((uF (by omega)).trans ((uF (by omega)).trans (uF (by omega))))))) a6 (fun _ => ⟨(a4 30 0 (by omega) (by omega) (by omega) (by omega) (by omega)).trans ((uF (by omega)).trans ((uF (by omega)).trans uS)), (a4 31 0 (by omega) (by omega) (by omega) (by omega) (by omega)).trans ((uF (by omega)).trans uS)⟩) (fun q => absurd c5 q)
        · have e2 : f_X4_noteFall N (mUp (mUp σ 16 k (σ 16 k + 1)) 19 (2 * k + t) (σ 19 (2 * k + t) - 1)) k = some ((), mUp (mUp (mUp σ 16 k (σ 16 k + 1)) 19 (2 * k + t) (σ 19 (2 * k + t) - 1)) 28 0 (σ 28 0 + 1)) := by
            unfold f_X4_noteFall
            simp only [eq_true hk16, uX, Nat.reduceEqDiff, false_and, and_false, c5, ↓reduceIte]
          have ib := iv_28 ia (σ 28 0 + 1)
          obtain ⟨w, σ9, ρ9, a1, a2, a3, a4, a5, a6⟩ := win_sp (N := N) (s := 1 - t) (x9 := 16) ib (by omega) hk (by omega) (fun q _ _ hne => hne)
          refine ⟨σ9, ρ9, v + 1, m + 1, fun n => rc_fall hk16 c tk e2 htt ht a1, fun n => ?_, iv_B a3 (by omega), ?_, by rw [← nI_1, Int32.add_assoc, Int32.add_comm 1]⟩
          · rw [p14 n, if_pos c4, a2]
            rfl
          · refine hE.fall (by omega) hf c ((a4 28 0 (by omega) (by omega) (by omega) (by omega) (by omega)).trans uS) ((a4 29 0 (by omega) (by omega) (by omega) (by omega) (by omega)).trans rfl) ((a4 24 0 (by omega) (by omega) (by omega) (by omega) (by omega)).trans rfl) (fun j => (a4 9 j (by omega) (by omega) (by omega) (by omega) (by omega)).trans ((uF (by omega)).trans ((uF (by omega)).trans (uF (by omega))))) (fun j hj => (a5 j hj).trans ((uF (by omega)).trans ((uF (by omega)).trans (uF (by omega))))) a6 (fun q => absurd q c5) (fun _ => ⟨(a4 30 0 (by omega) (by omega) (by omega) (by omega) (by omega)).trans ((uF (by omega)).trans ((uF (by omega)).trans (uF (by omega)))), (a4 31 0 (by omega) (by omega) (by omega) (by omega) (by omega)).trans ((uF (by omega)).trans ((uF (by omega)).trans (uF (by omega))))⟩)
      · rw [if_neg c3] at tk
        have c39 : (σ 19 (2 * k + t) - 1).toInt ≠ 0 := fun e => c3 (Int32.toInt_inj.mp (e.trans t0.symm))
        have c4 : ¬ σ 19 (2 * k + t) - 1 ≤ 0 := by rw [leI, t0]; omega
        refine ⟨_, _, v, m, fun n => rc_tick hk16 c tk, fun n => (p14 n).trans (if_neg c4), iv_B (i19 16 (Or.inr (by omega))) (by omega), hE.same (fun f j h16 h19 => ?_), rfl⟩
        rw [uF h19, uF h16]
  · exact ⟨σ, ρ, v, m, fun n => rc_skip h hk16 c, fun n => p14_skip h hk c, iv_B h1 (by omega), hE.same (fun _ _ _ _ => rfl), rfl⟩
