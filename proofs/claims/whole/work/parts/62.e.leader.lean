/-! ===== the leader ===== -/
def kD (σ : mSt) (p : Nat) : Int := (σ 2 p).toInt - (σ 3 p).toInt
def kC (σ : mSt) (p : Nat) : Int := (σ 0 p).toInt
def kA (σ : mSt) (q p : Nat) : Prop := kD σ p < kD σ q ∨ (kD σ q = kD σ p ∧ (kC σ p < kC σ q ∨ (kC σ q = kC σ p ∧ q < p)))
theorem kA_dec (σ : mSt) (q p : Nat) : kA σ q p ∨ ¬ kA σ q p := Classical.em _
noncomputable def kT (σ : mSt) (p q : Nat) : Nat := @ite Nat (kA σ q p) (Classical.propDecidable _) 1 0
noncomputable def kR (σ : mSt) (p : Nat) : Nat → Nat
  | 0 => 0
  | n + 1 => kR σ p n + kT σ p n
theorem kT_1 {σ : mSt} {p q : Nat} (h : kA σ q p) : kT σ p q = 1 := by unfold kT; exact @if_pos _ (Classical.propDecidable _) h _ _ _
theorem kT_0 {σ : mSt} {p q : Nat} (h : ¬ kA σ q p) : kT σ p q = 0 := by unfold kT; exact @if_neg _ (Classical.propDecidable _) h _ _ _
theorem kA_tr {σ : mSt} {a b c : Nat} (h1 : kA σ a b) (h2 : kA σ b c) : kA σ a c := by unfold kA at *; omega
theorem kA_ir {σ : mSt} {a : Nat} : ¬ kA σ a a := by unfold kA; omega
theorem kA_to {σ : mSt} {a b : Nat} (h : a ≠ b) : kA σ a b ∨ kA σ b a := by unfold kA; omega
theorem kR_le {σ : mSt} {p : Nat} : ∀ n, kR σ p n ≤ n ∧ (p < n → kR σ p n < n) := by
  intro n
  induction n with
  | zero => exact ⟨Nat.le_refl _, fun h => absurd h (by omega)⟩
  | succ n ih =>
    show kR σ p n + kT σ p n ≤ n + 1 ∧ (p < n + 1 → kR σ p n + kT σ p n < n + 1)
    rcases kA_dec σ n p with c | c
    · rw [kT_1 c]
      have : n ≠ p := fun e => by subst e; exact kA_ir c
      exact ⟨by omega, fun h => by have := ih.2 (by omega); omega⟩
    · rw [kT_0 c]
      exact ⟨by omega, fun h => by omega⟩
theorem kR_lt {σ : mSt} {p q : Nat} (h : kA σ p q) : ∀ n, kR σ p n ≤ kR σ q n ∧ (p < n → kR σ p n < kR σ q n) := by
  intro n
  induction n with
  | zero => exact ⟨Nat.le_refl _, fun h => absurd h (by omega)⟩
  | succ n ih =>
    show kR σ p n + kT σ p n ≤ kR σ q n + kT σ q n ∧ (p < n + 1 → kR σ p n + kT σ p n < kR σ q n + kT σ q n)
    rcases kA_dec σ n p with c | c
    · rw [kT_1 c, kT_1 (kA_tr c h)]
      have : n ≠ p := fun e => by subst e; exact kA_ir c
      exact ⟨by omega, fun h => by have := ih.2 (by omega); omega⟩
    · rw [kT_0 c]
      by_cases e : n = p
      · subst e
        rw [kT_1 h]
        exact ⟨by omega, fun _ => by omega⟩
      · refine ⟨by omega, fun h9 => ?_⟩
        have := ih.2 (by omega)
        omega
theorem kR_in {σ : mSt} {n p q : Nat} (hp : p < n) (hq : q < n) (h : kR σ p n = kR σ q n) : p = q := by
  by_cases e : p = q
  · exact e
  · rcases kA_to (σ := σ) e with c | c
    · have := (kR_lt c n).2 hp; omega
    · have := (kR_lt c n).2 hq; omega
theorem pigeon : ∀ (n : Nat) (f : Nat → Nat), (∀ i, i < n → f i < n) → (∀ i j, i < n → j < n → f i = f j → i = j) → ∀ j, j < n → ∃ i, i < n ∧ f i = j := by
  intro n
  induction n with
  | zero => intro f _ _ j hj; omega
  | succ n ih =>
    intro f h1 h2 j hj
    have hg1 : ∀ i, i < n → (if f i = n then f n else f i) < n := fun i hi => by
      by_cases e : f i = n
      · rw [if_pos e]
        have a := h1 n (by omega)
        have b : f n ≠ n := fun q => by have := h2 i n (by omega) (by omega) (e.trans q.symm); omega
        omega
      · rw [if_neg e]
        have a := h1 i (by omega)
        omega
    have hg2 : ∀ i k, i < n → k < n → (if f i = n then f n else f i) = (if f k = n then f n else f k) → i = k := fun i k hi hk e => by
      by_cases e1 : f i = n <;> by_cases e2 : f k = n
      · exact h2 i k (by omega) (by omega) (e1.trans e2.symm)
      · rw [if_pos e1, if_neg e2] at e
        have := h2 n k (by omega) (by omega) e
        omega
      · rw [if_neg e1, if_pos e2] at e
        have := h2 i n (by omega) (by omega) e
        omega
      · rw [if_neg e1, if_neg e2] at e
        exact h2 i k (by omega) (by omega) e
    by_cases e : f n = j
    · exact ⟨n, by omega, e⟩
    · by_cases e9 : j = n
      · subst e9
        have a := h1 j (by omega)
        obtain ⟨i, hi, hf⟩ := ih (fun i => if f i = j then f j else f i) hg1 hg2 (f j) (by omega)
        have hf : (if f i = j then f j else f i) = f j := hf
        by_cases c : f i = j
        · exact ⟨i, by omega, c⟩
        · rw [if_neg c] at hf
          have := h2 i j (by omega) (by omega) hf
          omega
      · obtain ⟨i, hi, hf⟩ := ih (fun i => if f i = n then f n else f i) hg1 hg2 j (by omega)
        have hf : (if f i = n then f n else f i) = j := hf
        by_cases c : f i = n
        · rw [if_pos c] at hf
          exact absurd hf e
        · rw [if_neg c] at hf
          exact ⟨i, by omega, hf⟩
theorem x_leads {N np nl ng B x a b : Nat} {σ ρ : mSt} (h : Iv np nl ng B x σ ρ) (hB : B ≤ 21500000) (ha : a < np) (hb : b < np) : ∃ v : Int32, f_X2_leads N σ a b = some (v, σ) ∧ ((v = 1 ∧ (kD σ b < kD σ a ∨ (kD σ a = kD σ b ∧ kC σ b < kC σ a))) ∨ (v = 0 ∧ ¬ (kD σ b < kD σ a ∨ (kD σ a = kD σ b ∧ kC σ b < kC σ a)))) := by
  have hp8 := h.hp
  have w1 := h.b2 a ha
  have l1 := h.b3 a ha
  have w2 := h.b2 b hb
  have l2 := h.b3 b hb
  have e1 := subI (a := σ 2 a) (b := σ 3 a) (by omega)
  have e2 := subI (a := σ 2 b) (b := σ 3 b) (by omega)
  have e3 := subI (a := σ 2 a - σ 3 a) (b := σ 2 b - σ 3 b) (by omega)
  unfold f_X2_leads kD kC
  rw [if_pos (show a < 8 by omega), if_pos (show b < 8 by omega)]
  by_cases c : (σ 2 a - σ 3 a) - (σ 2 b - σ 3 b) = 0
  · rw [if_pos c]
    rw [c, t0] at e3
    by_cases c2 : σ 0 a ≤ σ 0 b
    · rw [if_pos c2]
      rw [leI] at c2
      exact ⟨0, rfl, Or.inr ⟨rfl, by omega⟩⟩
    · rw [if_neg c2]
      rw [leI] at c2
      exact ⟨1, rfl, Or.inl ⟨rfl, by omega⟩⟩
  · rw [if_neg c]
    have c9 : (σ 2 a - σ 3 a - (σ 2 b - σ 3 b)).toInt ≠ 0 := fun e => c (Int32.toInt_inj.mp (e.trans t0.symm))
    by_cases c2 : (σ 2 a - σ 3 a) - (σ 2 b - σ 3 b) ≤ 0
    · rw [if_pos c2]
      rw [leI, t0] at c2
      exact ⟨0, rfl, Or.inr ⟨rfl, by omega⟩⟩
    · rw [if_neg c2]
      rw [leI, t0] at c2
      exact ⟨1, rfl, Or.inl ⟨rfl, by omega⟩⟩
theorem x_ahead {N np nl ng B x p : Nat} {σ ρ : mSt} (h : Iv np nl ng B x σ ρ) (hB : B ≤ 21500000) (hN : 100 ≤ N) (hp : p < np) : f_X4_playersAheadOf N σ (nI p) = some (nI (kR σ p np), σ) := by
  have hp8 := h.hp
  unfold f_X4_playersAheadOf
  rw [pAt hp8 h.c21 hp]
  simp only [bS, oL, eq_true (show p < 8 by omega), ↓reduceIte]
  have hk : ∀ k, sI k (fun q => nI (kT σ p q)) = nI (kR σ p k) := by
    intro k
    induction k with
    | zero => rfl
    | succ k ih =>
      show sI k _ + nI (kT σ p k) = nI (kR σ p k + kT σ p k)
      rw [ih, nI_add]
  rw [← hk]
  refine acc (F := fun n v i => f_X4_playersAheadOf_11 N (nI p) n σ p v i) (E := fun v => some (v, σ)) (M := np) (fun n k v hk => ?_) (fun n v => ?_) (by omega)
  · show f_X4_playersAheadOf_11 N (nI p) (n + 1) σ p v (nI k) = f_X4_playersAheadOf_11 N (nI p) n σ p (v + nI (kT σ p k)) (nI (k + 1))
    rw [f_X4_playersAheadOf_11, h.c21]
    unfold f_X4_playersAheadOf_47 f_X4_playersAheadOf_48 f_X4_playersAheadOf_64
    obtain ⟨v1, q1, r1⟩ := x_leads (N := N) h hB hp hk
    obtain ⟨v2, q2, r2⟩ := x_leads (N := N) h hB hk hp
    have lp : (p < 8) = True := eq_true (by omega)
    have lk : (k < 8) = True := eq_true (by omega)
    have z : ¬ (1 : Int32) = 0 := by decide
    have hgt : (nI p ≤ nI k) = (p ≤ k) := propext (nI_leI (by omega) (by omega))
    have kA1 : kA σ k p → kT σ p k = 1 := kT_1
    have kA0 : ¬ kA σ k p → kT σ p k = 0 := kT_0
    unfold kA at kA1 kA0
    rcases r2 with ⟨rfl, r2⟩ | ⟨rfl, r2⟩
    · have e : kT σ p k = 1 := kA1 (by omega)
      rw [e]
      by_cases c : p ≤ k
      · simp only [leF rfl hk (show np < 1000 by omega), pAt hp8 h.c21 hk, bS, oL, lp, lk, hgt, c, q1, q2, z, ↓reduceIte, nI_1]
        rfl
      · rcases r1 with ⟨rfl, r1⟩ | ⟨rfl, r1⟩
        · simp only [leF rfl hk (show np < 1000 by omega), pAt hp8 h.c21 hk, bS, oL, lp, lk, hgt, c, q1, q2, z, ↓reduceIte, nI_1]
          rfl
        · simp only [leF rfl hk (show np < 1000 by omega), pAt hp8 h.c21 hk, bS, oL, lp, lk, hgt, c, q1, q2, z, ↓reduceIte, nI_1]
          rfl
    · by_cases c : p ≤ k
      · have e : kT σ p k = 0 := kA0 (by omega)
        rw [e]
        simp only [leF rfl hk (show np < 1000 by omega), pAt hp8 h.c21 hk, bS, oL, lp, lk, hgt, c, q1, q2, z, ↓reduceIte, nI_1, show nI 0 = 0 from rfl, Int32.add_zero]
      · rcases r1 with ⟨rfl, r1⟩ | ⟨rfl, r1⟩
        · have e : kT σ p k = 0 := kA0 (by omega)
          rw [e]
          simp only [leF rfl hk (show np < 1000 by omega), pAt hp8 h.c21 hk, bS, oL, lp, lk, hgt, c, q1, q2, z, ↓reduceIte, nI_1, show nI 0 = 0 from rfl, Int32.add_zero]
        · have e : kT σ p k = 1 := kA1 (by omega)
          rw [e]
          simp only [leF rfl hk (show np < 1000 by omega), pAt hp8 h.c21 hk, bS, oL, lp, lk, hgt, c, q1, q2, z, ↓reduceIte, nI_1]
          rfl
  · show f_X4_playersAheadOf_11 N (nI p) (n + 1) σ p v (nI np) = some (v, σ)
    rw [f_X4_playersAheadOf_11, h.c21, if_pos (show p < 8 by omega), if_pos (Int32.le_refl _)]
theorem y_isAhead {N np nl ng B x a b : Nat} {σ ρ α : mSt} {th : Int32} (h : Iv np nl ng B x σ ρ) (hB : B ≤ 21500000) (ha : a < np) (hb : b < np) : f_X7_isAhead N th ρ α (nI a) (nI b) = some (nI (kT σ b a), th, ρ, α) := by
  have hp8 := h.hp
  have w1 := h.b2 a ha
  have l1 := h.b3 a ha
  have w2 := h.b2 b hb
  have l2 := h.b3 b hb
  have e1 := subI (a := σ 2 a) (b := σ 3 a) (by omega)
  have e2 := subI (a := σ 2 b) (b := σ 3 b) (by omega)
  have kA1 : kA σ a b → kT σ b a = 1 := kT_1
  have kA0 : ¬ kA σ a b → kT σ b a = 0 := kT_0
  unfold kA kD kC at kA1 kA0
  unfold f_X7_isAhead
  rw [if_pos (mI_in (show a < 8 by omega) (by omega)), if_pos (mI_in (show b < 8 by omega) (by omega)), cl (show a < 1000 by omega), cl (show b < 1000 by omega), h.e2 a ha, h.e3 a ha, h.e2 b hb, h.e3 b hb, h.e0 a ha, h.e0 b hb]
  by_cases c : σ 2 a - σ 3 a = σ 2 b - σ 3 b
  · rw [if_pos c]
    have c9 := congrArg Int32.toInt c
    by_cases c2 : σ 0 b < σ 0 a
    · rw [if_pos c2]
      rw [lI] at c2
      rw [kA1 (by omega)]
      rfl
    · rw [if_neg c2]
      rw [lI] at c2
      by_cases c3 : σ 0 a = σ 0 b
      · rw [if_pos c3]
        have c39 := congrArg Int32.toInt c3
        by_cases c4 : nI b ≤ nI a
        · rw [if_pos c4]
          rw [nI_leI (by omega) (by omega)] at c4
          rw [kA0 (by omega)]
          rfl
        · rw [if_neg c4]
          rw [nI_leI (by omega) (by omega)] at c4
          rw [kA1 (by omega)]
          rfl
      · rw [if_neg c3]
        have c39 : (σ 0 a).toInt ≠ (σ 0 b).toInt := fun e => c3 (Int32.toInt_inj.mp e)
        rw [kA0 (by omega)]
        rfl
  · rw [if_neg c]
    have c9 : (σ 2 a - σ 3 a).toInt ≠ (σ 2 b - σ 3 b).toInt := fun e => c (Int32.toInt_inj.mp e)
    by_cases c2 : σ 2 a - σ 3 a ≤ σ 2 b - σ 3 b
    · rw [if_pos c2]
      rw [leI] at c2
      rw [kA0 (by omega)]
      rfl
    · rw [if_neg c2]
      rw [leI] at c2
      rw [kA1 (by omega)]
      rfl
theorem y_inner {N np nl ng B a : Nat} {σ ρ α : mSt} {a1 v2 : Int32} {rec : Int32 → mSt → mSt → Int32 → Int32 → Option (Int32 × Int32 × mSt × mSt)} (h : Iv np nl ng B 16 σ ρ) (hB : B ≤ 21500000) (hN : 100 ≤ N) (ha : a < np) : f_X7_leader_49 N a1 rec N 0 ρ α v2 (nI a) 0 0 = (if nI (kR σ a np) = a1 then rec 0 ρ α (nI a) (nI a + 1) else rec 0 ρ α v2 (nI a + 1)) := by
  have hp8 := h.hp
  have hk : ∀ k, sI k (fun q => nI (kT σ a q)) = nI (kR σ a k) := by
    intro k
    induction k with
    | zero => rfl
    | succ k ih =>
      show sI k _ + nI (kT σ a k) = nI (kR σ a k + kT σ a k)
      rw [ih, nI_add]
  rw [← hk]
  refine acc (F := fun n v i => f_X7_leader_49 N a1 rec n 0 ρ α v2 (nI a) v i) (E := fun v => if v = a1 then rec 0 ρ α (nI a) (nI a + 1) else rec 0 ρ α v2 (nI a + 1)) (M := np) (fun n k v hk => ?_) (fun n v => ?_) (by omega)
  · show f_X7_leader_49 N a1 rec (n + 1) 0 ρ α v2 (nI a) v (nI k) = f_X7_leader_49 N a1 rec n 0 ρ α v2 (nI a) (v + nI (kT σ a k)) (nI (k + 1))
    rw [f_X7_leader_49, h.d21]
    unfold f_X7_leader_83 f_X7_leader_84
    have he : (nI k = nI a) = (k = a) := propext (nI_eq (by omega) (by omega))
    have z : ¬ (1 : Int32) = 0 := by decide
    by_cases c : k = a
    · have e : kT σ a k = 0 := kT_0 (by subst c; exact kA_ir)
      rw [e]
      simp only [leF rfl ha (show np < 1000 by omega), he, c, ↓reduceIte, nI_1]
      rfl
    · rcases kA_dec σ k a with e | e
      · rw [y_isAhead h hB hk ha, kT_1 e]
        simp only [leF rfl hk (show np < 1000 by omega), he, c, bS, show nI 1 = 1 from rfl, z, ↓reduceIte, nI_1]
      · rw [y_isAhead h hB hk ha, kT_0 e]
        simp only [leF rfl hk (show np < 1000 by omega), he, c, bS, show nI 0 = 0 from rfl, ↓reduceIte, nI_1]
  · show f_X7_leader_49 N a1 rec (n + 1) 0 ρ α v2 (nI a) v (nI np) = _
    rw [f_X7_leader_49, h.d21, if_pos (Int32.le_refl _)]
theorem x_find {N np nl ng B : Nat} {σ τ ρ : mSt} {a1 : Int32} {p0 : Nat} (h : Iv np nl ng B 16 σ ρ) (hB : B ≤ 21500000) (hN : 100 ≤ N) (hp0 : p0 < np) (h1 : nI (kR σ p0 np) = a1) (h2 : ∀ q, q < np → q ≠ p0 → nI (kR σ q np) ≠ a1) : ∀ (d k n : Nat), k + d = p0 → f_X5_leader_2 N a1 (n + 1 + d) σ τ (nI k) = some (.inl (nI p0), σ, τ) := by
  have hp8 := h.hp
  intro d
  induction d with
  | zero =>
    intro k n hk
    have e : k = p0 := by omega
    subst e
    show f_X5_leader_2 N a1 (n + 1) σ τ (nI k) = _
    rw [f_X5_leader_2, h.c21, if_neg (fun e => absurd ((nI_leI (by omega) (by omega)).mp e) (by omega)), x_ahead h hB hN hp0]
    simp only [bS]
    rw [if_pos h1]
  | succ d ih =>
    intro k n hk
    show f_X5_leader_2 N a1 ((n + 1 + d) + 1) σ τ (nI k) = _
    rw [f_X5_leader_2, h.c21, if_neg (fun e => absurd ((nI_leI (by omega) (by omega)).mp e) (by omega)), x_ahead h hB hN (show k < np by omega)]
    simp only [bS]
    rw [if_neg (h2 k (by omega) (by omega)), nI_1]
    exact ih (k + 1) n (by omega)
theorem x_none {N np nl ng B : Nat} {σ τ ρ : mSt} {a1 : Int32} (h : Iv np nl ng B 16 σ ρ) (hB : B ≤ 21500000) (hN : 100 ≤ N) (h2 : ∀ q, q < np → nI (kR σ q np) ≠ a1) : ∀ (d k n : Nat), k + d = np → f_X5_leader_2 N a1 (n + 1 + d) σ τ (nI k) = some (.inr exI, σ, τ) := by
  have hp8 := h.hp
  intro d
  induction d with
  | zero =>
    intro k n hk
    have e : k = np := by omega
    subst e
    show f_X5_leader_2 N a1 (n + 1) σ τ (nI k) = _
    rw [f_X5_leader_2, h.c21, if_pos (Int32.le_refl _)]
  | succ d ih =>
    intro k n hk
    show f_X5_leader_2 N a1 ((n + 1 + d) + 1) σ τ (nI k) = _
    rw [f_X5_leader_2, h.c21, if_neg (fun e => absurd ((nI_leI (by omega) (by omega)).mp e) (by omega)), x_ahead h hB hN (show k < np by omega)]
    simp only [bS]
    rw [if_neg (h2 k (by omega)), nI_1]
    exact ih (k + 1) n (by omega)
theorem g_leader {N np nl ng B : Nat} {σ τ ρ α : mSt} {th : Int32} (h : Iv np nl ng B 16 σ ρ) (hB : B ≤ 21000000) (hN : 100 ≤ N) (a1 : Int32) : ∃ o r th9 σ9 ρ9, f_X5_leader N σ τ a1 = some (o, σ9, τ) ∧ f_X7_leader N th ρ α a1 = some (r, th9, ρ9, α) ∧ An [(exI, 1)] o r th9 ∧ Iv np nl ng (B + 40000) 16 σ9 ρ9 := by
  have hp8 := h.hp
  have h2 := iv_B h (B9 := B + 40000) (by omega)
  rcases idx a1 (show np < 1000 by omega) with ⟨j, hj, rfl⟩ | ho
  · obtain ⟨p0, hp0, hr⟩ := pigeon np (fun p => kR σ p np) (fun p hp => (kR_le np).2 hp) (fun p q hp hq e => kR_in hp hq e) j hj
    have hr : kR σ p0 np = j := hr
    have hu : ∀ q, q < np → q ≠ p0 → nI (kR σ q np) ≠ nI j := fun q hq hn e => by
      have := (nI_eq (by have := (kR_le (σ := σ) (p := q) np).1; omega) (by omega)).mp e
      exact hn (kR_in hq hp0 (this.trans hr.symm))
    apply g_mk
    · unfold f_X5_leader
      obtain ⟨n, hn⟩ : ∃ n, N = n + 1 + p0 := ⟨N - 1 - p0, by omega⟩
      have := x_find (N := N) (τ := τ) h (by omega) hN hp0 (congrArg nI hr) hu p0 0 n (by omega)
      rw [← hn] at this
      exact this
    · unfold f_X7_leader
      rw [h.d21, iI (isP (show np < 1000 by omega) hj)]
      simp only [bS, one0, ↓reduceIte]
      refine (itr_e (F := fun n s i => f_X7_leader_32 N (nI j) n 0 ρ α s i) (E := fun s => some (s, 0, ρ, α)) (st := fun k s => if nI (kR σ k np) = nI j then nI k else s) (M := np) (fun n k s hk => ?_) (fun n s => ?_) (by omega) (-1)).trans ?_
      · show f_X7_leader_32 N (nI j) (n + 1) 0 ρ α s (nI k) = f_X7_leader_32 N (nI j) n 0 ρ α (if nI (kR σ k np) = nI j then nI k else s) (nI (k + 1))
        rw [f_X7_leader_32, h.d21, if_neg (fun e => absurd ((nI_leI (by omega) (by omega)).mp e) (by omega)), y_inner h (by omega) hN hk, nI_1]
        by_cases c : nI (kR σ k np) = nI j
        · rw [if_pos c, if_pos c]
        · rw [if_neg c, if_neg c]
      · show f_X7_leader_32 N (nI j) (n + 1) 0 ρ α s (nI np) = _
        rw [f_X7_leader_32, h.d21, if_pos (Int32.le_refl _)]
      · have hi : ∀ k, k ≤ np → itr (fun k s => if nI (kR σ k np) = nI j then nI k else s) k (-1) = if p0 < k then nI p0 else -1 := by
          intro k
          induction k with
          | zero => intro _; rfl
          | succ k ih =>
            intro hk
            show (if nI (kR σ k np) = nI j then nI k else itr _ k (-1)) = _
            rw [ih (by omega)]
            by_cases e : k = p0
            · subst e
              rw [if_pos (congrArg nI hr), if_pos (by omega)]
            · rw [if_neg (hu k (by omega) e)]
              by_cases c : p0 < k
              · rw [if_pos c, if_pos (by omega)]
              · rw [if_neg c, if_neg (by omega)]
        rw [hi np (Nat.le_refl _), if_pos hp0]
    · exact An.ok
    · exact h2
  · apply g_mk
    · unfold f_X5_leader
      obtain ⟨n, hn⟩ : ∃ n, N = n + 1 + np := ⟨N - 1 - np, by omega⟩
      have := x_none (N := N) (τ := τ) (a1 := a1) h (by omega) hN (fun q hq e => by
        have a := (kR_le (σ := σ) (p := q) np).2 hq
        rcases ho with c | c
        · rw [← e, lI, t0, nIt (by omega)] at c; omega
        · rw [← e, nI_leI (by omega) (by omega)] at c; omega) np 0 n (by omega)
      rw [← hn] at this
      exact this
    · unfold f_X7_leader
      rw [h.d21, iI_o (isP_o (show np < 1000 by omega) ho)]
      simp only [bS, ↓reduceIte, no0]
      rfl
    · exact An.no 0 rfl
    · exact h2
