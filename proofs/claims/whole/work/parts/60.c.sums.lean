/-! ===== loops that add up ===== -/
theorem leF {k n : Nat} {c : Int32} (hc : c = nI n) (h : k < n) (hn : n < 1000) : (c ≤ nI k) = False := by
  subst hc
  exact eq_false (fun e => absurd ((nI_leI (by omega) (by omega)).mp e) (by omega))
theorem leT {k n : Nat} {c : Int32} (hc : c = nI n) (h : n ≤ k) (hn : k < 1000) : (c ≤ nI k) = True := by
  subst hc
  exact eq_true ((nI_leI (by omega) (by omega)).mpr h)
theorem acc_k {O : Type} {F : Nat → Int32 → Int32 → O} {M : Nat} {h : Nat → Int32} (hF : ∀ n k v, k < M → F (n + 1) v (nI k) = F n (v + h k) (nI (k + 1))) (v : Int32) : ∀ k n, k ≤ M → F (n + k) v 0 = F n (v + sI k h) (nI k) := by
  intro k
  induction k with
  | zero => intro n _; show F n v 0 = F n (v + 0) (nI 0); rw [Int32.add_zero]; rfl
  | succ k ih =>
    intro n hk
    rw [show n + (k + 1) = (n + 1) + k by omega, ih (n + 1) (by omega), hF n k _ (by omega), Int32.add_assoc]
    rfl
theorem acc {O : Type} {F : Nat → Int32 → Int32 → O} {E : Int32 → O} {M : Nat} {h : Nat → Int32} (hF : ∀ n k v, k < M → F (n + 1) v (nI k) = F n (v + h k) (nI (k + 1))) (hE : ∀ n v, F (n + 1) v (nI M) = E v) {N : Nat} (hN : M < N) : F N 0 0 = E (sI M h) := by
  obtain ⟨n, rfl⟩ : ∃ n, N = n + 1 + M := ⟨N - M - 1, by omega⟩
  rw [acc_k hF 0 M (n + 1) (Nat.le_refl _), hE, Int32.zero_add]
theorem sI_2 {n : Nat} {h : Nat → Int32} : sI (2 * n) h = sI n (fun g => h (2 * g) + h (2 * g + 1)) := by
  induction n with
  | zero => rfl
  | succ n ih =>
    show sI (2 * n + 1) h + h (2 * n + 1) = sI n _ + (h (2 * n) + h (2 * n + 1))
    rw [← ih, ← Int32.add_assoc]
    rfl
theorem dv2 : ∀ i, i < 32 → nI i / 2 = nI (i / 2) := by decide +kernel
theorem md2 : ∀ i, i < 32 → ((nI i - nI (i / 2) * 2 = 0) = (i % 2 = 0)) := fun i hi => propext ((by decide +kernel : ∀ i, i < 32 → (nI i - nI (i / 2) * 2 = 0 ↔ i % 2 = 0)) i hi)
theorem add0 {v : Int32} {x : Int32} : x = x + 0 := (Int32.add_zero _).symm
def qRun (σ : mSt) (g : Nat) : Int32 := if σ 17 g = 0 then 1 else 0
def qRunOf (σ : mSt) (a : Int32) (g : Nat) : Int32 := if σ 17 g = 0 then (if σ 18 (2 * g) = a then 1 else if σ 18 (2 * g + 1) = a then 1 else 0) else 0
def qOpen (σ : mSt) (k : Nat) : Int32 := if σ 9 k = 0 then 1 else 0
def qLoans (σ : mSt) (a b : Int32) (k : Nat) : Int32 := if σ 9 k = b then (if σ 5 k = a then 1 else 0) else 0
def qOwed (σ : mSt) (a : Int32) (k : Nat) : Int32 := if σ 9 k = 0 ∨ σ 9 k = 2 then (if σ 5 k = a then σ 6 k else 0) else 0
theorem x_gamesRunning {N : Nat} {σ : mSt} (hN : 100 ≤ N) : f_X4_gamesRunning N σ = some (sI 16 (qRun σ), σ) := by
  unfold f_X4_gamesRunning
  refine acc (F := fun n v i => f_X4_gamesRunning_13 N n σ v i) (E := fun v => some (v, σ)) (M := 16) (fun n k v hk => ?_) (fun n v => ?_) (by omega)
  · show f_X4_gamesRunning_13 N (n + 1) σ v (nI k) = f_X4_gamesRunning_13 N n σ (v + qRun σ k) (nI (k + 1))
    rw [f_X4_gamesRunning_13]
    unfold f_X0_runs qRun
    by_cases c : σ 17 k = 0
    · simp only [leF (n := 16) (c := 16) rfl hk (by decide), mI_t hk (show 16 < 1000 by omega), cl (show k < 1000 by omega), c, bS, ↓reduceIte, one0, eq_true hk, nI_1]
    · simp only [leF (n := 16) (c := 16) rfl hk (by decide), mI_t hk (show 16 < 1000 by omega), cl (show k < 1000 by omega), c, bS, ↓reduceIte, one0, eq_true hk, nI_1, Int32.add_zero]
  · show f_X4_gamesRunning_13 N (n + 1) σ v 16 = some (v, σ)
    rw [f_X4_gamesRunning_13]
    rfl
theorem x_gamesRunningOf {N : Nat} {σ : mSt} {a : Int32} (hN : 100 ≤ N) : f_X4_gamesRunningOf N σ a = some (sI 16 (qRunOf σ a), σ) := by
  unfold f_X4_gamesRunningOf
  refine acc (F := fun n v i => f_X4_gamesRunningOf_14 N a n σ v i) (E := fun v => some (v, σ)) (M := 16) (fun n k v hk => ?_) (fun n v => ?_) (by omega)
  · show f_X4_gamesRunningOf_14 N a (n + 1) σ v (nI k) = f_X4_gamesRunningOf_14 N a n σ (v + qRunOf σ a k) (nI (k + 1))
    rw [f_X4_gamesRunningOf_14]
    unfold f_X0_runs qRunOf f_X0_isPlayedBy
    by_cases c : σ 17 k = 0
    · by_cases c2 : σ 18 (2 * k) = a
      · simp only [leF (n := 16) (c := 16) rfl hk (by decide), mI_t hk (show 16 < 1000 by omega), cl (show k < 1000 by omega), c, c2, bS, ↓reduceIte, one0, eq_true hk, nI_1]
      · by_cases c3 : σ 18 (2 * k + 1) = a
        · simp only [leF (n := 16) (c := 16) rfl hk (by decide), mI_t hk (show 16 < 1000 by omega), cl (show k < 1000 by omega), c, c2, c3, bS, ↓reduceIte, one0, eq_true hk, nI_1]
        · simp only [leF (n := 16) (c := 16) rfl hk (by decide), mI_t hk (show 16 < 1000 by omega), cl (show k < 1000 by omega), c, c2, c3, bS, ↓reduceIte, one0, eq_true hk, nI_1, Int32.add_zero]
    · simp only [leF (n := 16) (c := 16) rfl hk (by decide), mI_t hk (show 16 < 1000 by omega), cl (show k < 1000 by omega), c, bS, ↓reduceIte, one0, eq_true hk, nI_1, Int32.add_zero]
  · show f_X4_gamesRunningOf_14 N a (n + 1) σ v 16 = some (v, σ)
    rw [f_X4_gamesRunningOf_14]
    rfl
theorem x_openLoans {N : Nat} {σ : mSt} (hN : 100 ≤ N) : f_X4_openLoans N σ = some (sI 20 (qOpen σ), σ) := by
  unfold f_X4_openLoans
  refine acc (F := fun n v i => f_X4_openLoans_13 N n σ v i) (E := fun v => some (v, σ)) (M := 20) (fun n k v hk => ?_) (fun n v => ?_) (by omega)
  · show f_X4_openLoans_13 N (n + 1) σ v (nI k) = f_X4_openLoans_13 N n σ (v + qOpen σ k) (nI (k + 1))
    rw [f_X4_openLoans_13]
    unfold qOpen
    by_cases c : σ 9 k = 0
    · simp only [leF (n := 20) (c := 20) rfl hk (by decide), mI_t hk (show 20 < 1000 by omega), cl (show k < 1000 by omega), c, ↓reduceIte, nI_1]
    · simp only [leF (n := 20) (c := 20) rfl hk (by decide), mI_t hk (show 20 < 1000 by omega), cl (show k < 1000 by omega), c, ↓reduceIte, nI_1, Int32.add_zero]
  · show f_X4_openLoans_13 N (n + 1) σ v 20 = some (v, σ)
    rw [f_X4_openLoans_13]
    rfl
theorem x_loansOf {N : Nat} {σ : mSt} {a b : Int32} (hN : 100 ≤ N) : f_X4_loansOf N σ a b = some (sI 20 (qLoans σ a b), σ) := by
  unfold f_X4_loansOf
  refine acc (F := fun n v i => f_X4_loansOf_16 N a b n σ v i) (E := fun v => some (v, σ)) (M := 20) (fun n k v hk => ?_) (fun n v => ?_) (by omega)
  · show f_X4_loansOf_16 N a b (n + 1) σ v (nI k) = f_X4_loansOf_16 N a b n σ (v + qLoans σ a b k) (nI (k + 1))
    rw [f_X4_loansOf_16]
    unfold qLoans
    by_cases c : σ 9 k = b
    · by_cases c2 : σ 5 k = a
      · simp only [leF (n := 20) (c := 20) rfl hk (by decide), mI_t hk (show 20 < 1000 by omega), cl (show k < 1000 by omega), c, c2, ↓reduceIte, nI_1]
      · simp only [leF (n := 20) (c := 20) rfl hk (by decide), mI_t hk (show 20 < 1000 by omega), cl (show k < 1000 by omega), c, c2, ↓reduceIte, nI_1, Int32.add_zero]
    · simp only [leF (n := 20) (c := 20) rfl hk (by decide), mI_t hk (show 20 < 1000 by omega), cl (show k < 1000 by omega), c, ↓reduceIte, nI_1, Int32.add_zero]
  · show f_X4_loansOf_16 N a b (n + 1) σ v 20 = some (v, σ)
    rw [f_X4_loansOf_16]
    rfl
theorem x_owedBy {N : Nat} {σ : mSt} {a : Int32} (hN : 100 ≤ N) : f_X4_owedBy N σ a = some (sI 20 (qOwed σ a), σ) := by
  unfold f_X4_owedBy
  refine acc (F := fun n v i => f_X4_owedBy_14 N a n σ v i) (E := fun v => some (v, σ)) (M := 20) (fun n k v hk => ?_) (fun n v => ?_) (by omega)
  · show f_X4_owedBy_14 N a (n + 1) σ v (nI k) = f_X4_owedBy_14 N a n σ (v + qOwed σ a k) (nI (k + 1))
    rw [f_X4_owedBy_14]
    unfold qOwed f_X4_isOwed
    by_cases c : σ 9 k = 0
    · by_cases c2 : σ 5 k = a
      · simp only [leF (n := 20) (c := 20) rfl hk (by decide), mI_t hk (show 20 < 1000 by omega), cl (show k < 1000 by omega), c, c2, bS, ↓reduceIte, eq_true hk, one0, true_or, nI_1]
      · simp only [leF (n := 20) (c := 20) rfl hk (by decide), mI_t hk (show 20 < 1000 by omega), cl (show k < 1000 by omega), c, c2, bS, ↓reduceIte, eq_true hk, one0, true_or, nI_1, Int32.add_zero]
    · by_cases c3 : σ 9 k = 2
      · have z : ¬ (2 : Int32) = 0 := by decide
        by_cases c2 : σ 5 k = a
        · simp only [leF (n := 20) (c := 20) rfl hk (by decide), mI_t hk (show 20 < 1000 by omega), cl (show k < 1000 by omega), c3, z, c2, bS, ↓reduceIte, eq_true hk, one0, or_true, nI_1]
        · simp only [leF (n := 20) (c := 20) rfl hk (by decide), mI_t hk (show 20 < 1000 by omega), cl (show k < 1000 by omega), c3, z, c2, bS, ↓reduceIte, eq_true hk, one0, or_true, nI_1, Int32.add_zero]
      · simp only [leF (n := 20) (c := 20) rfl hk (by decide), mI_t hk (show 20 < 1000 by omega), cl (show k < 1000 by omega), c, c3, bS, ↓reduceIte, eq_true hk, or_self, nI_1, Int32.add_zero]
  · show f_X4_owedBy_14 N a (n + 1) σ v 20 = some (v, σ)
    rw [f_X4_owedBy_14]
    rfl
theorem y_loansOf {N np nl ng B x : Nat} {σ ρ α : mSt} {th a b : Int32} (h : Iv np nl ng B x σ ρ) (hN : 100 ≤ N) : f_X7_loansOf N th ρ α a b = some (sI nl (qLoans σ a b), th, ρ, α) := by
  have hl8 := h.hl
  unfold f_X7_loansOf
  refine acc (F := fun n v i => f_X7_loansOf_5 N a b n th ρ α v i) (E := fun v => some (v, th, ρ, α)) (M := nl) (fun n k v hk => ?_) (fun n v => ?_) (by omega)
  · show f_X7_loansOf_5 N a b (n + 1) th ρ α v (nI k) = f_X7_loansOf_5 N a b n th ρ α (v + qLoans σ a b k) (nI (k + 1))
    rw [f_X7_loansOf_5, h.d23]
    unfold qLoans f_X7_loansOf_50 f_X7_loansOf_51
    by_cases c : σ 9 k = b
    · by_cases c2 : σ 5 k = a
      · simp only [cl (show k < 1000 by omega), h.e15 k hk, h.e19 k hk, h.e16 k hk, leF rfl hk (show nl < 1000 by omega), mI_t (show k < 20 by omega) (show 20 < 1000 by omega), c, c2, ↓reduceIte, nI_1]
      · simp only [cl (show k < 1000 by omega), h.e15 k hk, h.e19 k hk, h.e16 k hk, leF rfl hk (show nl < 1000 by omega), mI_t (show k < 20 by omega) (show 20 < 1000 by omega), c, c2, ↓reduceIte, nI_1]
    · simp only [cl (show k < 1000 by omega), h.e15 k hk, h.e19 k hk, h.e16 k hk, leF rfl hk (show nl < 1000 by omega), mI_t (show k < 20 by omega) (show 20 < 1000 by omega), c, ↓reduceIte, nI_1, ite_self]
  · show f_X7_loansOf_5 N a b (n + 1) th ρ α v (nI nl) = some (v, th, ρ, α)
    rw [f_X7_loansOf_5, h.d23, if_pos (Int32.le_refl _)]
theorem y_owedBy {N np nl ng B x : Nat} {σ ρ α : mSt} {th a : Int32} (h : Iv np nl ng B x σ ρ) (hN : 100 ≤ N) : f_X7_owedBy N th ρ α a = some (sI nl (qOwed σ a), th, ρ, α) := by
  have hl8 := h.hl
  unfold f_X7_owedBy
  refine acc (F := fun n v i => f_X7_owedBy_4 N a n th ρ α v i) (E := fun v => some (v, th, ρ, α)) (M := nl) (fun n k v hk => ?_) (fun n v => ?_) (by omega)
  · show f_X7_owedBy_4 N a (n + 1) th ρ α v (nI k) = f_X7_owedBy_4 N a n th ρ α (v + qOwed σ a k) (nI (k + 1))
    rw [f_X7_owedBy_4, h.d23]
    unfold qOwed f_X7_owedBy_54 f_X7_owedBy_55
    have z0 : ¬ (0 : Int32) = 1 := by decide
    have z1 : ¬ (1 : Int32) = 0 := by decide
    have z2 : ¬ (1 : Int32) = 2 := by decide
    have z3 : ¬ (2 : Int32) = 1 := by decide
    by_cases c2 : σ 5 k = a
    · rcases h.lk k hk with c | c | c
      · simp only [cl (show k < 1000 by omega), h.e15 k hk, h.e19 k hk, h.e16 k hk, leF rfl hk (show nl < 1000 by omega), mI_t (show k < 20 by omega) (show 20 < 1000 by omega), c, c2, z0, true_or, ↓reduceIte, nI_1]
      · simp only [cl (show k < 1000 by omega), h.e15 k hk, h.e19 k hk, h.e16 k hk, leF rfl hk (show nl < 1000 by omega), mI_t (show k < 20 by omega) (show 20 < 1000 by omega), c, c2, z1, z2, or_self, ↓reduceIte, nI_1]
      · simp only [cl (show k < 1000 by omega), h.e15 k hk, h.e19 k hk, h.e16 k hk, leF rfl hk (show nl < 1000 by omega), mI_t (show k < 20 by omega) (show 20 < 1000 by omega), c, c2, z3, or_true, ↓reduceIte, nI_1]
    · simp only [cl (show k < 1000 by omega), h.e15 k hk, h.e19 k hk, h.e16 k hk, leF rfl hk (show nl < 1000 by omega), mI_t (show k < 20 by omega) (show 20 < 1000 by omega), c2, ↓reduceIte, nI_1, ite_self]
  · show f_X7_owedBy_4 N a (n + 1) th ρ α v (nI nl) = some (v, th, ρ, α)
    rw [f_X7_owedBy_4, h.d23, if_pos (Int32.le_refl _)]
def qSide (σ : mSt) (a : Int32) (i : Nat) : Int32 := if σ 17 (i / 2) = 0 then (if a = -1 then (if i % 2 = 0 then 1 else 0) else if σ 18 i = a then 1 else 0) else 0
theorem r_runs {N np nl ng B x g : Nat} {σ ρ : mSt} (h : Iv np nl ng B x σ ρ) (hg : g < ng) : f_X6_runs N ρ (nI g) = some (if σ 17 g = 0 then 1 else 0, ρ) := by
  have hg8 := h.hg
  unfold f_X6_runs
  rw [if_pos (mI_in (show g < 16 by omega) (by omega)), cl (show g < 1000 by omega), h.e14 g hg]
  by_cases c : σ 17 g = 0
  · rw [if_pos c, if_pos c]
  · rw [if_neg c, if_neg c]
theorem y_running {N np nl ng B x : Nat} {σ ρ α : mSt} {th a : Int32} (h : Iv np nl ng B x σ ρ) (hN : 100 ≤ N) : f_X7_running N th ρ α a = some (sI (2 * ng) (qSide σ a), th, ρ, α) := by
  have hg8 := h.hg
  unfold f_X7_running
  refine acc (F := fun n v i => f_X7_running_4 N a n th ρ α v i) (E := fun v => some (v, th, ρ, α)) (M := 2 * ng) (fun n k v hk => ?_) (fun n v => ?_) (by omega)
  · show f_X7_running_4 N a (n + 1) th ρ α v (nI k) = f_X7_running_4 N a n th ρ α (v + qSide σ a k) (nI (k + 1))
    rw [f_X7_running_4, h.d22, two_nI]
    unfold qSide f_X7_running_58 f_X7_running_62 f_X7_running_63
    by_cases c : σ 17 (k / 2) = 0
    · by_cases c2 : a = -1
      · by_cases c3 : k % 2 = 0
        · simp only [dv2 k (by omega), md2 k (by omega), r_runs h (show k / 2 < ng by omega), leF rfl hk (show 2 * ng < 1000 by omega), bS, c, c2, c3, one0, ↓reduceIte, nI_1]
        · simp only [dv2 k (by omega), md2 k (by omega), r_runs h (show k / 2 < ng by omega), leF rfl hk (show 2 * ng < 1000 by omega), bS, c, c2, c3, one0, ↓reduceIte, nI_1]
      · by_cases c3 : σ 18 k = a
        · simp only [dv2 k (by omega), md2 k (by omega), r_runs h (show k / 2 < ng by omega), leF rfl hk (show 2 * ng < 1000 by omega), bS, c, c2, mI_t (show k < 32 by omega) (show 32 < 1000 by omega), cl (show k < 1000 by omega), h.e5 k hk, c3, one0, ↓reduceIte, nI_1]
        · simp only [dv2 k (by omega), md2 k (by omega), r_runs h (show k / 2 < ng by omega), leF rfl hk (show 2 * ng < 1000 by omega), bS, c, c2, mI_t (show k < 32 by omega) (show 32 < 1000 by omega), cl (show k < 1000 by omega), h.e5 k hk, c3, one0, ↓reduceIte, nI_1]
    · simp only [dv2 k (by omega), md2 k (by omega), r_runs h (show k / 2 < ng by omega), leF rfl hk (show 2 * ng < 1000 by omega), bS, c, ↓reduceIte, nI_1]
  · show f_X7_running_4 N a (n + 1) th ρ α v (nI (2 * ng)) = some (v, th, ρ, α)
    rw [f_X7_running_4, h.d22, two_nI, if_pos (Int32.le_refl _)]
theorem run_1 {np nl ng B x : Nat} {σ ρ : mSt} (h : Iv np nl ng B x σ ρ) : sI 16 (qRun σ) = sI (2 * ng) (qSide σ (-1)) := by
  rw [sI_2]
  refine sI_to h.hg (fun g hg => ?_) (fun g h1 h2 => ?_)
  · unfold qRun qSide
    rw [show 2 * g / 2 = g by omega, show (2 * g + 1) / 2 = g by omega, show 2 * g % 2 = 0 by omega, show (2 * g + 1) % 2 = 1 by omega, if_pos rfl, if_pos rfl, if_pos rfl, if_neg (show ¬ 1 = 0 by omega)]
    by_cases c : σ 17 g = 0
    · simp only [c, ↓reduceIte]; rfl
    · simp only [c, ↓reduceIte]; rfl
  · unfold qRun
    rw [h.gu g h1 h2]
    rfl
theorem run_2 {np nl ng B x p : Nat} {σ ρ : mSt} (h : Iv np nl ng B x σ ρ) (hp : p < np) : sI 16 (qRunOf σ (nI p)) = sI (2 * ng) (qSide σ (nI p)) := by
  have hp8 := h.hp
  rw [sI_2]
  have hm : ¬ nI p = -1 := fun e => by
    have := congrArg Int32.toInt e
    rw [nIt (by omega)] at this
    have k : (-1 : Int32).toInt = -1 := by decide
    omega
  refine sI_to h.hg (fun g hg => ?_) (fun g h1 h2 => ?_)
  · unfold qRunOf qSide
    rw [show 2 * g / 2 = g by omega, show (2 * g + 1) / 2 = g by omega, if_neg hm, if_neg hm]
    by_cases c : σ 17 g = 0
    · by_cases c2 : σ 18 (2 * g) = nI p
      · have c3 : ¬ σ 18 (2 * g + 1) = nI p := fun e => h.ne g hg (c2.trans e.symm)
        simp only [c, c2, c3, ↓reduceIte]; rfl
      · simp only [c, c2, ↓reduceIte, Int32.zero_add]
    · simp only [c, ↓reduceIte]; rfl
  · unfold qRunOf
    rw [h.gu g h1 h2]
    rfl
theorem loans_1 {np nl ng B x : Nat} {σ ρ : mSt} {a b : Int32} (h : Iv np nl ng B x σ ρ) (hb : b = 0 ∨ b = 2) : sI 20 (qLoans σ a b) = sI nl (qLoans σ a b) := by
  refine sI_to h.hl (fun _ _ => rfl) (fun k h1 h2 => ?_)
  unfold qLoans
  rw [h.lu k h1 h2]
  rcases hb with rfl | rfl <;> rfl
theorem owed_1 {np nl ng B x : Nat} {σ ρ : mSt} {a : Int32} (h : Iv np nl ng B x σ ρ) : sI 20 (qOwed σ a) = sI nl (qOwed σ a) := by
  refine sI_to h.hl (fun _ _ => rfl) (fun k h1 h2 => ?_)
  unfold qOwed
  rw [h.lu k h1 h2]
  rfl
theorem open_1 {np nl ng B x : Nat} {σ ρ : mSt} (h : Iv np nl ng B x σ ρ) : sI 20 (qOpen σ) = sI nl (qOpen σ) := by
  refine sI_to h.hl (fun _ _ => rfl) (fun k h1 h2 => ?_)
  unfold qOpen
  rw [h.lu k h1 h2]
  rfl
