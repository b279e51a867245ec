/-! ===== what is told: players, counts ===== -/
def plT (σ : mSt) (p w : Nat) : Int32 := if w = 0 then σ 0 p else if w = 1 then σ 1 p else if w = 2 then sI 16 (qRunOf σ (nI p)) else if w = 3 then σ 2 p else if w = 4 then σ 3 p else if w = 5 then sI 20 (qOwed σ (nI p)) else if w = 6 then sI 20 (qLoans σ (nI p) 2) else σ 4 p
theorem plT_1 {N : Nat} {σ τ : mSt} {np p j : Nat} (hN : 100 ≤ N) (hp8 : np ≤ 8) (c21 : σ 21 0 = nI np) (hp : p < np) (hj : j < 8) : f_X5_player N σ τ (nI p) (nI j) = some (.inl (plT σ p j), σ, τ) := by
  have f1 := fun N => pAt (N := N) hp8 c21 hp
  have lt : (p < 8) = True := eq_true (by omega)
  unfold f_X5_player
  simp only [f1, bS, oL, lt, ↓reduceIte, x_gamesRunningOf hN, x_owedBy hN, x_loansOf hN]
  rw [if_neg (rg_i (n := 7) (m := 7) rfl (by omega) (by omega))]
  match j, hj with
  | 0, _ => rfl
  | 1, _ => rfl
  | 2, _ => rfl
  | 3, _ => rfl
  | 4, _ => rfl
  | 5, _ => rfl
  | 6, _ => rfl
  | 7, _ => rfl
theorem plT_2 {N : Nat} {th : Int32} {σ ρ α : mSt} {np nl ng B x p j : Nat} (h : Iv np nl ng B x σ ρ) (hN : 100 ≤ N) (hp : p < np) (hj : j < 8) : f_X7_playerTold N th ρ α (nI p) (nI j) = some (plT σ p j, th, ρ, α) := by
  have hp8 := h.hp
  unfold f_X7_playerTold
  have r0 := h.e0 p hp
  have r1 := h.e1 p hp
  have r2 := h.e2 p hp
  have r3 := h.e3 p hp
  have r4 := h.e4 p hp
  have k2 := run_2 h hp
  have k5 := owed_1 h (a := nI p)
  have k6 := loans_1 h (a := nI p) (b := 2) (Or.inr rfl)
  simp only [y_running h hN, y_owedBy h hN, y_loansOf h hN, mI_t (show p < 8 by omega) (show 8 < 1000 by omega), cl (show p < 1000 by omega), bS, ↓reduceIte, r0, r1, r2, r3, r4, ← k2, ← k5, ← k6]
  match j, hj with
  | 0, _ => rfl
  | 1, _ => rfl
  | 2, _ => rfl
  | 3, _ => rfl
  | 4, _ => rfl
  | 5, _ => rfl
  | 6, _ => rfl
  | 7, _ => rfl
def coT (σ : mSt) (w : Nat) : Int32 := if w = 0 then σ 24 0 else if w = 1 then σ 21 0 else if w = 2 then σ 23 0 else if w = 3 then sI 16 (qRun σ) else if w = 4 then σ 22 0 else if w = 5 then sI 20 (qOpen σ) else if w = 6 then σ 25 0 else if w = 7 then σ 26 0 else if w = 8 then 3 + mMax 0 (100000 - σ 25 0) / 1000 else if w = 9 then 100000 - σ 25 0 else σ 27 0
theorem coT_1 {N : Nat} {σ τ : mSt} {j : Nat} (hN : 100 ≤ N) (hj : j < 11) : f_X5_count N σ τ (nI j) = some (.inl (coT σ j), σ, τ) := by
  unfold f_X5_count f_X4_currentPrice f_X4_secondsOut
  simp only [bS, x_gamesRunning hN, x_openLoans hN]
  rw [if_neg (rg_i (n := 10) (m := 10) rfl (by omega) (by omega))]
  match j, hj with
  | 0, _ => rfl
  | 1, _ => rfl
  | 2, _ => rfl
  | 3, _ => rfl
  | 4, _ => rfl
  | 5, _ => rfl
  | 6, _ => rfl
  | 7, _ => rfl
  | 8, _ => rfl
  | 9, _ => rfl
  | 10, _ => rfl
theorem coT_2 {N : Nat} {th : Int32} {σ ρ α : mSt} {np nl ng B x j : Nat} (h : Iv np nl ng B x σ ρ) (hN : 100 ≤ N) (hj : j < 11) : f_X7_counted N th ρ α (nI j) = some (coT σ j, th, ρ, α) := by
  have hp8 := h.hp
  have hl8 := h.hl
  have e1 : f_X7_counted N th ρ α (nI j) = f_X7_counted_49 N (nI j) N th ρ α (sI nl (qOpen σ)) 0 0 := by
    unfold f_X7_counted
    refine acc (F := fun n v i => f_X7_counted_7 N (nI j) n th ρ α v i) (E := fun v => f_X7_counted_49 N (nI j) N th ρ α v 0 0) (M := nl) (fun n k v hk => ?_) (fun n v => ?_) (by omega)
    · show f_X7_counted_7 N (nI j) (n + 1) th ρ α v (nI k) = f_X7_counted_7 N (nI j) n th ρ α (v + qOpen σ k) (nI (k + 1))
      rw [f_X7_counted_7, h.d23]
      unfold qOpen f_X7_counted_38
      by_cases c : σ 9 k = 0
      · simp only [cl (show k < 1000 by omega), h.e19 k hk, leF rfl hk (show nl < 1000 by omega), mI_t (show k < 20 by omega) (show 20 < 1000 by omega), c, ↓reduceIte, nI_1]
      · simp only [cl (show k < 1000 by omega), h.e19 k hk, leF rfl hk (show nl < 1000 by omega), mI_t (show k < 20 by omega) (show 20 < 1000 by omega), c, ↓reduceIte, nI_1]
    · show f_X7_counted_7 N (nI j) (n + 1) th ρ α v (nI nl) = _
      rw [f_X7_counted_7, h.d23, if_pos (Int32.le_refl _)]
  rw [e1]
  refine (acc (F := fun n v i => f_X7_counted_49 N (nI j) n th ρ α (sI nl (qOpen σ)) v i) (E := fun v => f_X7_counted_49 N (nI j) 1 th ρ α (sI nl (qOpen σ)) v (nI np)) (h := σ 4) (M := np) (fun n k v hk => ?_) (fun n v => ?_) (by omega)).trans ?_
  · show f_X7_counted_49 N (nI j) (n + 1) th ρ α (sI nl (qOpen σ)) v (nI k) = f_X7_counted_49 N (nI j) n th ρ α (sI nl (qOpen σ)) (v + σ 4 k) (nI (k + 1))
    rw [f_X7_counted_49, h.d21]
    simp only [cl (show k < 1000 by omega), h.e4 k hk, leF rfl hk (show np < 1000 by omega), mI_t (show k < 8 by omega) (show 8 < 1000 by omega), ↓reduceIte, nI_1]
  · show f_X7_counted_49 N (nI j) (n + 1) th ρ α (sI nl (qOpen σ)) v (nI np) = f_X7_counted_49 N (nI j) 1 th ρ α (sI nl (qOpen σ)) v (nI np)
    rw [f_X7_counted_49, f_X7_counted_49, h.d21, if_pos (Int32.le_refl _), if_pos (Int32.le_refl _)]
  · show f_X7_counted_49 N (nI j) (0 + 1) th ρ α (sI nl (qOpen σ)) (sI np (σ 4)) (nI np) = _
    rw [f_X7_counted_49, if_pos (by rw [h.d21]; exact Int32.le_refl _)]
    unfold f_X6_price
    simp only [y_running h hN, bS, mI_t hj (show 11 < 1000 by omega), cl (show j < 1000 by omega), ↓reduceIte, ← run_1 h, ← open_1 h, ← h.ca, h.tm, h.rs, h.bk, h.ou, h.d21, h.d22, h.d23, ← h.c21, ← h.c22, ← h.c23]
    match j, hj with
    | 0, _ => rfl
    | 1, _ => rfl
    | 2, _ => rfl
    | 3, _ => rfl
    | 4, _ => rfl
    | 5, _ => rfl
    | 6, _ => rfl
    | 7, _ => rfl
    | 8, _ => rfl
    | 9, _ => rfl
    | 10, _ => rfl
theorem g_player {N np nl ng B : Nat} {σ τ ρ α : mSt} {th : Int32} (h : Iv np nl ng B 16 σ ρ) (hN : 100 ≤ N) (a1 a2 : Int32) : ∃ o r th9 σ9 ρ9, f_X5_player N σ τ a1 a2 = some (o, σ9, τ) ∧ f_X7_player N th ρ α a1 a2 = some (r, th9, ρ9, α) ∧ An [(exI, 1)] o r th9 ∧ Iv np nl ng (B + 40000) 16 σ9 ρ9 := by
  have hp8 := h.hp
  have h2 := iv_B h (B9 := B + 40000) (by omega)
  rcases idx a1 (show np < 1000 by omega) with ⟨p, hp, rfl⟩ | ho
  · by_cases c1 : 0 ≤ a2 ∧ a2 ≤ nI 7
    · obtain ⟨j, hj, rfl⟩ := rg (by omega) c1
      have c19 : 0 ≤ nI j ∧ nI j ≤ 7 := c1
      apply g_mk
      · exact plT_1 hN hp8 h.c21 hp (by omega)
      · unfold f_X7_player
        simp only [isPl (show np < 1000 by omega) h.d21 hp, bS, iI c19, one0, ↓reduceIte, plT_2 h hN hp (show j < 8 by omega)]
        rfl
      · exact An.ok
      · exact h2
    · have c19 : ¬ (0 ≤ a2 ∧ a2 ≤ 7) := c1
      have c3 := rg_o (n := 7) (m := 7) rfl (by omega) c1
      have lt : (p < 8) = True := eq_true (by omega)
      apply g_mk
      · unfold f_X5_player
        simp only [pAt hp8 h.c21 hp, bS, oL, lt, ↓reduceIte]
        rw [if_pos c3]
      · unfold f_X7_player
        simp only [isPl (show np < 1000 by omega) h.d21 hp, bS, iI_o c19, one0, ↓reduceIte, no0]
        rfl
      · exact An.no 0 rfl
      · exact h2
  · apply g_mk
    · unfold f_X5_player
      simp only [pAt_o h.c21 ho, bS, oR]
      rfl
    · unfold f_X7_player
      simp only [isPl_o (show np < 1000 by omega) h.d21 ho, bS, ↓reduceIte, no0]
      rfl
    · exact An.no 0 rfl
    · exact h2
theorem g_count {N np nl ng B : Nat} {σ τ ρ α : mSt} {th : Int32} (h : Iv np nl ng B 16 σ ρ) (hN : 100 ≤ N) (a1 : Int32) : ∃ o r th9 σ9 ρ9, f_X5_count N σ τ a1 = some (o, σ9, τ) ∧ f_X7_count N th ρ α a1 = some (r, th9, ρ9, α) ∧ An [(exI, 1)] o r th9 ∧ Iv np nl ng (B + 40000) 16 σ9 ρ9 := by
  have h2 := iv_B h (B9 := B + 40000) (by omega)
  by_cases c1 : 0 ≤ a1 ∧ a1 ≤ nI 10
  · obtain ⟨j, hj, rfl⟩ := rg (by omega) c1
    have c19 : 0 ≤ nI j ∧ nI j ≤ 10 := c1
    apply g_mk
    · exact coT_1 hN (by omega)
    · unfold f_X7_count
      simp only [bS, iI c19, one0, ↓reduceIte, coT_2 h hN (show j < 11 by omega)]
      rfl
    · exact An.ok
    · exact h2
  · have c19 : ¬ (0 ≤ a1 ∧ a1 ≤ 10) := c1
    have c3 := rg_o (n := 10) (m := 10) rfl (by omega) c1
    apply g_mk
    · unfold f_X5_count
      rw [if_pos c3]
    · unfold f_X7_count
      simp only [bS, iI_o c19, ↓reduceIte, no0]
      rfl
    · exact An.no 0 rfl
    · exact h2
