/-! ===== needs; the digest ===== -/
def qNeeds (σ : mSt) (a s : Int32) (g : Nat) : Int32 := if σ 17 g = 0 then (if σ 18 (if σ 14 g = 0 then 2 * g else 2 * g + 1) = a then mMax 0 (((mMax 0 (s - (mMax 0 ((σ 12 g) - (σ 16 g))))) + 1) - (σ 19 (if σ 14 g = 0 then 2 * g else 2 * g + 1))) else 0) else 0
theorem spent {s d i : Int32} {B : Nat} (hB : B ≤ 22000000) (h1 : 1 ≤ s.toInt ∧ s.toInt ≤ 600) (h2 : 0 ≤ d.toInt ∧ d.toInt ≤ 30) (h3 : 0 ≤ i.toInt ∧ i.toInt ≤ B) : mMax 0 (s - mMax 0 (d - i)) = mMax 0 (mMin s (i + s - d)) := by
  apply Int32.toInt_inj.mp
  have e1 := subI (a := d) (b := i) (by omega)
  have m1 := mMax_I 0 (d - i)
  rw [t0] at m1
  have e2 := subI (a := s) (b := mMax 0 (d - i)) (by omega)
  have e3 := addI (a := i) (b := s) (by omega)
  have e4 := subI (a := i + s) (b := d) (by omega)
  have m2 := mMin_I s (i + s - d)
  rw [mMax_I, mMax_I, t0]
  omega
theorem g_needs {N np nl ng B : Nat} {σ τ ρ α : mSt} {th : Int32} (h : Iv np nl ng B 16 σ ρ) (hB : B ≤ 21000000) (hN : 100 ≤ N) (a1 a2 : Int32) : ∃ o r th9 σ9 ρ9, f_X5_needs N σ τ a1 a2 = some (o, σ9, τ) ∧ f_X7_needs N th ρ α a1 a2 = some (r, th9, ρ9, α) ∧ An [(exI, 1), (exA, 2)] o r th9 ∧ Iv np nl ng (B + 40000) 16 σ9 ρ9 := by
  have hp8 := h.hp
  have hg8 := h.hg
  have h2 := iv_B h (B9 := B + 40000) (by omega)
  have c21 := h.c21
  have z1 : ¬ (1 : Int32) = 0 := by decide
  rcases idx a1 (show np < 1000 by omega) with ⟨p, hp, rfl⟩ | ho
  · by_cases c1 : 1 ≤ a2 ∧ a2 ≤ 600
    · have c19 := c1
      have k6 : (600 : Int32).toInt = 600 := by decide
      rw [leI, leI, t1, k6] at c19
      have ex : f_X5_needs_69 N (nI p) a2 N σ τ 0 0 = some (.inl (sI 16 (qNeeds σ (nI p) a2)), σ, τ) := by
        refine acc (F := fun n v i => f_X5_needs_69 N (nI p) a2 n σ τ v i) (E := fun v => some (.inl v, σ, τ)) (M := 16) (fun n k v hk => ?_) (fun n v => ?_) (by omega)
        · show f_X5_needs_69 N (nI p) a2 (n + 1) σ τ v (nI k) = f_X5_needs_69 N (nI p) a2 n σ τ (v + qNeeds σ (nI p) a2 k) (nI (k + 1))
          rw [f_X5_needs_69]
          unfold f_X0_runs qNeeds f_X0_mover f_X0_missingFor f_X0_mover f_X0_sideAt
          have l0 : (2 * k < 32) = True := eq_true (by omega)
          have l1 : (2 * k + 1 < 32) = True := eq_true (by omega)
          by_cases c : σ 17 k = 0
          · by_cases ct : σ 14 k = 0
            · by_cases cp : σ 18 (2 * k) = nI p
              · simp only [leF (n := 16) (c := 16) rfl hk (by decide), mI_t hk (show 16 < 1000 by omega), cl (show k < 1000 by omega), c, ct, cp, l0, bS, ↓reduceIte, one0, eq_true hk, nI_1]
              · simp only [leF (n := 16) (c := 16) rfl hk (by decide), mI_t hk (show 16 < 1000 by omega), cl (show k < 1000 by omega), c, ct, cp, l0, bS, ↓reduceIte, one0, eq_true hk, nI_1, Int32.add_zero]
            · by_cases cp : σ 18 (2 * k + 1) = nI p
              · simp only [leF (n := 16) (c := 16) rfl hk (by decide), mI_t hk (show 16 < 1000 by omega), cl (show k < 1000 by omega), c, ct, cp, l1, bS, ↓reduceIte, one0, eq_true hk, nI_1]
              · simp only [leF (n := 16) (c := 16) rfl hk (by decide), mI_t hk (show 16 < 1000 by omega), cl (show k < 1000 by omega), c, ct, cp, l1, bS, ↓reduceIte, one0, eq_true hk, nI_1, Int32.add_zero]
          · simp only [leF (n := 16) (c := 16) rfl hk (by decide), mI_t hk (show 16 < 1000 by omega), cl (show k < 1000 by omega), c, bS, ↓reduceIte, eq_true hk, nI_1, Int32.add_zero]
        · show f_X5_needs_69 N (nI p) a2 (n + 1) σ τ v 16 = _
          rw [f_X5_needs_69]
          rfl
      have ey : f_X7_needs_41 N (nI p) a2 N 0 ρ α 0 0 = some (sI ng (qNeeds σ (nI p) a2), 0, ρ, α) := by
        refine acc (F := fun n v i => f_X7_needs_41 N (nI p) a2 n 0 ρ α v i) (E := fun v => some (v, 0, ρ, α)) (M := ng) (fun n k v hk => ?_) (fun n v => ?_) (by omega)
        · show f_X7_needs_41 N (nI p) a2 (n + 1) 0 ρ α v (nI k) = f_X7_needs_41 N (nI p) a2 n 0 ρ α (v + qNeeds σ (nI p) a2 k) (nI (k + 1))
          rw [f_X7_needs_41, h.d22]
          unfold qNeeds
          have hm0 := mI_t (show 2 * k < 32 by omega) (show 32 < 1000 by omega)
          have hm1 := mI_t (show 2 * k + 1 < 32 by omega) (show 32 < 1000 by omega)
          have ec0 := cl (show 2 * k < 1000 by omega)
          have ec1 := cl (show 2 * k + 1 < 1000 by omega)
          have r11 := h.e11 k hk
          have r13 := h.e13 k hk
          have r9 := h.e9 k hk
          have r5a := h.e5 (2 * k) (by omega)
          have r5b := h.e5 (2 * k + 1) (by omega)
          have r6a := h.e6 (2 * k) (by omega)
          have r6b := h.e6 (2 * k + 1) (by omega)
          have sp := spent (i := σ 16 k) (show B ≤ 22000000 by omega) c19 (h.b12 k hk) (h.b16 k hk)
          by_cases c : σ 17 k = 0
          · rcases h.tu k hk with ct | ct
            · by_cases cp : σ 18 (2 * k) = nI p
              · simp only [leF rfl hk (show ng < 1000 by omega), mI_t (show k < 16 by omega) (show 16 < 1000 by omega), cl (show k < 1000 by omega), r_runs h hk, c, ct, cp, r11, r13, r9, r5a, r6a, two_nI, Int32.add_zero, hm0, ec0, bS, ↓reduceIte, one0, nI_1, sp]
              · simp only [leF rfl hk (show ng < 1000 by omega), mI_t (show k < 16 by omega) (show 16 < 1000 by omega), cl (show k < 1000 by omega), r_runs h hk, c, ct, cp, r11, r13, r9, r5a, r6a, two_nI, Int32.add_zero, hm0, ec0, bS, ↓reduceIte, one0, nI_1, sp]
            · by_cases cp : σ 18 (2 * k + 1) = nI p
              · simp only [leF rfl hk (show ng < 1000 by omega), mI_t (show k < 16 by omega) (show 16 < 1000 by omega), cl (show k < 1000 by omega), r_runs h hk, c, ct, z1, cp, r11, r13, r9, r5b, r6b, two_nI, nI_1, hm1, ec1, bS, ↓reduceIte, one0, sp]
              · simp only [leF rfl hk (show ng < 1000 by omega), mI_t (show k < 16 by omega) (show 16 < 1000 by omega), cl (show k < 1000 by omega), r_runs h hk, c, ct, z1, cp, r11, r13, r9, r5b, r6b, two_nI, nI_1, hm1, ec1, bS, ↓reduceIte, one0, sp, Int32.add_zero]
          · simp only [leF rfl hk (show ng < 1000 by omega), mI_t (show k < 16 by omega) (show 16 < 1000 by omega), cl (show k < 1000 by omega), r_runs h hk, c, bS, ↓reduceIte, nI_1, Int32.add_zero]
        · show f_X7_needs_41 N (nI p) a2 (n + 1) 0 ρ α v (nI ng) = _
          rw [f_X7_needs_41, h.d22, if_pos (Int32.le_refl _)]
      have eq : sI 16 (qNeeds σ (nI p) a2) = sI ng (qNeeds σ (nI p) a2) := by
        refine sI_to hg8 (fun _ _ => rfl) (fun g h1 h2 => ?_)
        unfold qNeeds
        rw [h.gu g h1 h2]
        rfl
      apply g_mk
      · unfold f_X5_needs
        simp only [c21, iO (isP (show np < 1000 by omega) hp), iO c1, bS, ↓reduceIte, ex]
        rfl
      · unfold f_X7_needs
        simp only [isPl (show np < 1000 by omega) h.d21 hp, bS, iI c1, one0, ↓reduceIte, ey, ← eq]
        rfl
      · exact An.ok
      · exact h2
    · apply g_mk
      · unfold f_X5_needs
        simp only [c21, iO (isP (show np < 1000 by omega) hp), iO_o c1, bS, ↓reduceIte, one0]
        rfl
      · unfold f_X7_needs
        simp only [isPl (show np < 1000 by omega) h.d21 hp, bS, iI_o c1, one0, ↓reduceIte, no0]
        rfl
      · exact An.no 1 rfl
      · exact h2
  · apply g_mk
    · unfold f_X5_needs
      simp only [c21, iO_o (isP_o (show np < 1000 by omega) ho), bS, ↓reduceIte, one0]
      rfl
    · unfold f_X7_needs
      simp only [isPl_o (show np < 1000 by omega) h.d21 ho, bS, ↓reduceIte, no0]
      rfl
    · exact An.no 0 rfl
    · exact h2
