/-! ===== a second: loans that are due ===== -/
theorem mMin_s (x : Int32) : mMin x x = x := by unfold mMin; rw [if_neg nn9]
theorem uE {σ1 σ2 : mSt} {f k : Nat} {y : Int32} (h : ∀ j, j ≠ k → σ1 f j = σ2 f j) : mUp σ1 f k y f = mUp σ2 f k y f := by
  funext j
  by_cases e : j = k
  · subst e; rw [uS, uS]
  · rw [uO e, uO e, h j e]
def vR (ρ : mSt) (k : Nat) (t : Int32) : mSt := mUp (mUp (mUp ρ 16 k (ρ 16 k - t)) 24 0 (ρ 24 0 + t)) 26 0 (ρ 26 0 - t)
def gSt (σ : mSt) (i k : Nat) (w : Int32) : mSt := mUp (mUp (mUp σ 19 i (σ 19 i - w)) 6 k (σ 6 k - w)) 25 0 (σ 25 0 + w)
theorem side_iv {np nl ng B k g t : Nat} {σ ρ : mSt} {tk : Int32} (hB : B ≤ 22000000) (h : Iv np nl ng B 16 σ (vR ρ k tk)) (hk : k < nl) (hg : g < ng) (ht : t < 2) (hr : σ 17 g = 0) : Iv np nl ng B 16 (gSt σ (2 * g + t) k (mMin (σ 6 k) (σ 19 (2 * g + t) - 1))) (vR (mUp ρ 6 (2 * g + t) (σ 19 (2 * g + t) - mMin (σ 6 k) (σ 19 (2 * g + t) - 1))) k (tk + mMin (σ 6 k) (σ 19 (2 * g + t) - 1))) := by
  have hg8 := h.hg
  have b6 := h.b6 k hk
  obtain ⟨b1, b2, b3⟩ := h.b19 g hg (by omega) hr
  have e16 : ρ 16 k - tk = σ 6 k := (uS (σ := ρ) (f := 16) (k := k)).symm.trans (h.e16 k hk)
  have e24 : ρ 24 0 + tk = σ 25 0 := (uS (σ := ρ) (f := 24) (k := 0)).symm.trans h.rs
  have e26 : ρ 26 0 - tk = 100000 - σ 25 0 := (uS (σ := ρ) (f := 26) (k := 0)).symm.trans h.ou
  have bi : 1 ≤ (σ 19 (2 * g + t)).toInt ∧ (σ 19 (2 * g + t)).toInt ≤ 14400 + B := by
    match t, ht with
    | 0, _ => exact ⟨b1, by show (σ 19 (2 * g)).toInt ≤ _; omega⟩
    | 1, _ => exact ⟨b2, by omega⟩
    | t + 2, h => exact absurd h (by omega)
  have ec := subI (a := σ 19 (2 * g + t)) (b := 1) (by rw [t1]; omega)
  rw [t1] at ec
  have mw := mMin_I (σ 6 k) (σ 19 (2 * g + t) - 1)
  rw [ec] at mw
  generalize mMin (σ 6 k) (σ 19 (2 * g + t) - 1) = w at mw ⊢
  have e1 := subI (a := σ 6 k) (b := w) (by omega)
  have e2 := subI (a := σ 19 (2 * g + t)) (b := w) (by omega)
  have hv : vR (mUp ρ 6 (2 * g + t) (σ 19 (2 * g + t) - w)) k (tk + w) = mUp (mUp (mUp (mUp ρ 6 (2 * g + t) (σ 19 (2 * g + t) - w)) 16 k (σ 6 k - w)) 24 0 (σ 25 0 + w)) 26 0 (100000 - σ 25 0 - w) := by
    unfold vR
    rw [uF (show (16 : Nat) ≠ 6 by omega), uF (show (24 : Nat) ≠ 6 by omega), uF (show (26 : Nat) ≠ 6 by omega), ← o1, ← o1, e16, e26, ← Int32.add_assoc, e24]
  rw [hv]
  have i19 : Iv np nl ng B 16 (mUp σ 19 (2 * g + t) (σ 19 (2 * g + t) - w)) (mUp (vR ρ k tk) 6 (2 * g + t) (σ 19 (2 * g + t) - w)) := by
    match t, ht with
    | 0, _ =>
      refine iv_19a (g := g) h (fun _ _ q => q) (fun _ _ _ => ?_)
      have e2 : (σ 19 (2 * g) - w).toInt = (σ 19 (2 * g)).toInt - w.toInt := e2
      have mw : w.toInt = min (σ 6 k).toInt ((σ 19 (2 * g)).toInt - 1) := mw
      show 1 ≤ (σ 19 (2 * g) - w).toInt ∧ (σ 19 (2 * g) - w).toInt + _ ≤ _
      omega
    | 1, _ =>
      refine iv_19b (g := g) h (fun _ _ q => q) (fun _ _ _ => ?_)
      show 1 ≤ (σ 19 (2 * g + 1) - w).toInt ∧ _ + (σ 19 (2 * g + 1) - w).toInt ≤ _
      omega
    | t + 2, h => exact absurd h (by omega)
  have i2 := iv_25o (iv_6 i19 (k := k) (v := σ 6 k - w) hk (by omega)) (σ 25 0 + w) (w := 100000 - σ 25 0 - w) o1
  exact iv_R i2 (r16 := uE (σ1 := mUp ρ 6 (2 * g + t) (σ 19 (2 * g + t) - w)) (σ2 := mUp (vR ρ k tk) 6 (2 * g + t) (σ 19 (2 * g + t) - w)) (fun j e => (uO (σ := ρ) (f := 16) (x := ρ 16 k - tk) e).symm)) (r24 := uE (σ1 := mUp ρ 6 (2 * g + t) (σ 19 (2 * g + t) - w)) (σ2 := mUp (vR ρ k tk) 6 (2 * g + t) (σ 19 (2 * g + t) - w)) (fun j e => (uO (σ := ρ) (f := 24) (x := ρ 24 0 + tk) e).symm)) (r26 := uE (σ1 := mUp ρ 6 (2 * g + t) (σ 19 (2 * g + t) - w)) (σ2 := mUp (vR ρ k tk) 6 (2 * g + t) (σ 19 (2 * g + t) - w)) (fun j e => (uO (σ := ρ) (f := 26) (x := ρ 26 0 - tk) e).symm))
/-- one side of a running game, on both sides -/
theorem side_x {N k i : Nat} {σ : mSt} (hk : k < 20) (hi : i < 32) (he : σ 18 i = σ 5 k) : f_X4_takeFromSide N σ k i = some ((), gSt σ i k (mMin (σ 6 k) (σ 19 i - 1))) := by
  unfold f_X4_takeFromSide f_X3_giveUpTo f_X4_bringBack gSt
  simp only [eq_true hk, eq_true hi, he, bS, ↓reduceIte, uX, Nat.reduceEqDiff, false_and]
theorem side_o {N k i : Nat} {σ : mSt} (hk : k < 20) (hi : i < 32) (he : ¬ σ 18 i = σ 5 k) : f_X4_takeFromSide N σ k i = some ((), σ) := by
  unfold f_X4_takeFromSide
  simp only [eq_true hk, eq_true hi, he, ↓reduceIte]
theorem col_skip {N np nl ng B x k g t n : Nat} {σ ρ : mSt} {w tk : Int32} (h : Iv np nl ng B x σ (vR ρ k tk)) (hg : g < ng) (ht : t < 2) (c : ¬ σ 17 g = 0) : f_X6_collect_36 N (nI k) (n + 1) ρ w tk (nI (2 * g + t)) = f_X6_collect_36 N (nI k) n ρ w tk (nI (2 * g + t + 1)) := by
  have hg8 := h.hg
  have d22 : ρ 22 0 = nI ng := h.d22
  have hr : f_X6_runs N ρ (nI g) = some (0, ρ) := by
    unfold f_X6_runs
    rw [if_pos (mI_in (show g < 16 by omega) (by omega)), cl (show g < 1000 by omega), if_neg (show ¬ ρ 14 g = 0 from fun e => c ((h.e14 g hg).symm.trans e))]
  rw [f_X6_collect_36, d22, two_nI]
  simp only [leF rfl (show 2 * g + t < 2 * ng by omega) (show 2 * ng < 1000 by omega), dv2 (2 * g + t) (by omega), show (2 * g + t) / 2 = g by omega, hr, bS, ↓reduceIte, nI_1]
theorem col_go {N np nl ng B x k g t n : Nat} {σ ρ : mSt} {tk : Int32} (h : Iv np nl ng B x σ (vR ρ k tk)) (hk : k < nl) (hg : g < ng) (ht : t < 2) (c : σ 17 g = 0) : f_X6_collect_36 N (nI k) (n + 1) ρ (σ 5 k) tk (nI (2 * g + t)) = (if σ 18 (2 * g + t) = σ 5 k then f_X6_collect_36 N (nI k) n (mUp ρ 6 (2 * g + t) (σ 19 (2 * g + t) - mMin (σ 6 k) (σ 19 (2 * g + t) - 1))) (σ 5 k) (tk + mMin (σ 6 k) (σ 19 (2 * g + t) - 1)) (nI (2 * g + t + 1)) else f_X6_collect_36 N (nI k) n ρ (σ 5 k) tk (nI (2 * g + t + 1))) := by
  have hg8 := h.hg
  have hl8 := h.hl
  have d22 : ρ 22 0 = nI ng := h.d22
  have hr : f_X6_runs N ρ (nI g) = some (1, ρ) := by
    unfold f_X6_runs
    rw [if_pos (mI_in (show g < 16 by omega) (by omega)), cl (show g < 1000 by omega), if_pos (show ρ 14 g = 0 from (h.e14 g hg).trans c)]
  have r5 : ρ 5 (2 * g + t) = σ 18 (2 * g + t) := h.e5 (2 * g + t) (by omega)
  have r6 : ρ 6 (2 * g + t) = σ 19 (2 * g + t) := h.e6 (2 * g + t) (by omega)
  have e16 : ρ 16 k - tk = σ 6 k := (uS (σ := ρ) (f := 16) (k := k)).symm.trans (h.e16 k hk)
  rw [f_X6_collect_36, d22, two_nI]
  simp only [leF rfl (show 2 * g + t < 2 * ng by omega) (show 2 * ng < 1000 by omega), dv2 (2 * g + t) (by omega), show (2 * g + t) / 2 = g by omega, hr, bS, one0, ↓reduceIte, nI_1, mI_t (show 2 * g + t < 32 by omega) (show 32 < 1000 by omega), cl (show 2 * g + t < 1000 by omega), mI_t (show k < 20 by omega) (show 20 < 1000 by omega), cl (show k < 1000 by omega), r5, r6, e16]
/-- what collecting leaves as it is -/
def CFr (σ σ9 : mSt) : Prop := ∀ f j, f ≠ 1 → f ≠ 6 → f ≠ 19 → f ≠ 25 → σ9 f j = σ f j
theorem CFr.g {σ : mSt} {i k : Nat} {w : Int32} : CFr σ (gSt σ i k w) := fun f j h1 h6 h19 h25 => by unfold gSt; rw [uF h25, uF h6, uF h19]
theorem CFr.tr {σ σ1 σ2 : mSt} (h1 : CFr σ σ1) (h2 : CFr σ1 σ2) : CFr σ σ2 := fun f j a b c d => (h2 f j a b c d).trans (h1 f j a b c d)
/-- one side, whatever it is -/
theorem one_side {N np nl ng B k g t : Nat} {σ ρ : mSt} {tk : Int32} (hB : B ≤ 22000000) (h : Iv np nl ng B 16 σ (vR ρ k tk)) (hk : k < nl) (hg : g < ng) (ht : t < 2) (c : σ 17 g = 0) : ∃ σ9 ρ9 tk9, f_X4_takeFromSide N σ k (2 * g + t) = some ((), σ9) ∧ (∀ n, f_X6_collect_36 N (nI k) (n + 1) ρ (σ 5 k) tk (nI (2 * g + t)) = f_X6_collect_36 N (nI k) n ρ9 (σ 5 k) tk9 (nI (2 * g + t + 1))) ∧ Iv np nl ng B 16 σ9 (vR ρ9 k tk9) ∧ CFr σ σ9 := by
  have hg8 := h.hg
  have hl8 := h.hl
  by_cases he : σ 18 (2 * g + t) = σ 5 k
  · exact ⟨_, _, _, side_x (by omega) (by omega) he, fun n => (col_go h hk hg ht c).trans (if_pos he), side_iv hB h hk hg ht c, CFr.g⟩
  · exact ⟨_, _, _, side_o (by omega) (by omega) he, fun n => (col_go h hk hg ht c).trans (if_neg he), h, fun _ _ _ _ _ _ => rfl⟩
theorem clocks_x {N np nl ng B k : Nat} {σ ρ : mSt} {tk : Int32} (hB : B ≤ 22000000) (hN : 100 ≤ N) (hN2 : N % 2 = 1) (h : Iv np nl ng B 16 σ (vR ρ k tk)) (hk : k < nl) : ∃ σ9 ρ9 tk9 n9, f_X4_takeFromClocks N σ k = some ((), σ9) ∧ f_X6_collect_36 N (nI k) N ρ (σ 5 k) tk 0 = f_X6_collect_36 N (nI k) (n9 + 1) ρ9 (σ 5 k) tk9 (nI (2 * ng)) ∧ Iv np nl ng B 16 σ9 (vR ρ9 k tk9) ∧ CFr σ σ9 := by
  have hg8 := h.hg
  have hl8 := h.hl
  obtain ⟨s9, t9, e1, e2, i, hF⟩ := lock (F := fun n s i => f_X4_takeFromClocks_11 N k n s i) (G := fun n (t : mSt × Int32) i => f_X6_collect_36 N (nI k) (2 * n + 1) t.1 (σ 5 k) t.2 (2 * i)) (m := ng) (fun g s t => Iv np nl ng B 16 s (vR t.1 k t.2) ∧ CFr σ s) (fun g s t hg hR => by
    obtain ⟨i, hF⟩ := hR
    have hg16 : g < 16 := by omega
    have h5 : s 5 k = σ 5 k := hF 5 k (by omega) (by omega) (by omega) (by omega)
    by_cases c : s 17 g = 0
    · obtain ⟨σ1, ρ1, tk1, a1, a2, a3, a4⟩ := one_side (N := N) (t := 0) hB i hk hg (by omega) c
      have c1 : σ1 17 g = 0 := (a4 17 g (by omega) (by omega) (by omega) (by omega)).trans c
      have h51 : σ1 5 k = σ 5 k := (a4 5 k (by omega) (by omega) (by omega) (by omega)).trans h5
      obtain ⟨σ2, ρ2, tk2, b1, b2, b3, b4⟩ := one_side (N := N) (t := 1) hB a3 hk hg (by omega) c1
      rw [h5] at a2
      rw [h51] at b2
      refine ⟨σ2, (ρ2, tk2), fun n => ?_, fun n => ?_, b3, (hF.tr a4).tr b4⟩
      · show f_X4_takeFromClocks_11 N k (n + 1) s (nI g) = _
        rw [f_X4_takeFromClocks_11]
        unfold f_X0_runs
        have a1 : f_X4_takeFromSide N s k (2 * g) = some ((), σ1) := a1
        simp only [eq_true (show k < 20 by omega), leF (n := 16) (c := 16) rfl hg16 (by decide), mI_t hg16 (show 16 < 1000 by omega), cl (show g < 1000 by omega), c, bS, one0, a1, b1, ↓reduceIte, eq_true hg16, nI_1]
      · show f_X6_collect_36 N (nI k) (2 * (n + 1) + 1) t.1 (σ 5 k) t.2 (2 * nI g) = f_X6_collect_36 N (nI k) (2 * n + 1) ρ2 (σ 5 k) tk2 (2 * nI (g + 1))
        rw [two_nI, two_nI]
        exact (a2 (2 * n + 2)).trans (b2 (2 * n + 1))
    · refine ⟨s, t, fun n => ?_, fun n => ?_, i, hF⟩
      · show f_X4_takeFromClocks_11 N k (n + 1) s (nI g) = _
        rw [f_X4_takeFromClocks_11]
        unfold f_X0_runs
        simp only [eq_true (show k < 20 by omega), leF (n := 16) (c := 16) rfl hg16 (by decide), mI_t hg16 (show 16 < 1000 by omega), cl (show g < 1000 by omega), c, bS, ↓reduceIte, eq_true hg16, nI_1]
      · show f_X6_collect_36 N (nI k) (2 * (n + 1) + 1) t.1 (σ 5 k) t.2 (2 * nI g) = f_X6_collect_36 N (nI k) (2 * n + 1) t.1 (σ 5 k) t.2 (2 * nI (g + 1))
        rw [two_nI, two_nI]
        exact (col_skip (t := 0) (n := 2 * n + 2) i hg (by omega) c).trans (col_skip (t := 1) (n := 2 * n + 1) i hg (by omega) c)) (s := σ) (t := (ρ, tk)) ⟨h, fun _ _ _ _ _ _ => rfl⟩ ng (Nat.le_refl _)
  have ei := idle (F := fun n s i => f_X4_takeFromClocks_11 N k n s i) (m := ng) (M := 16) (s := s9) (fun n g h1 h2 => by
    have c : ¬ s9 17 g = 0 := by rw [i.gu g h1 h2]; decide
    show f_X4_takeFromClocks_11 N k (n + 1) s9 (nI g) = _
    rw [f_X4_takeFromClocks_11]
    unfold f_X0_runs
    simp only [eq_true (show k < 20 by omega), leF (n := 16) (c := 16) rfl h2 (by decide), mI_t h2 (show 16 < 1000 by omega), cl (show g < 1000 by omega), c, bS, ↓reduceIte, eq_true h2, nI_1]) (16 - ng) (by omega)
  obtain ⟨M, hM⟩ : ∃ M, N = 2 * M + 1 := ⟨N / 2, by omega⟩
  obtain ⟨n9, hn9⟩ : ∃ n9, M = n9 + ng := ⟨M - ng, by omega⟩
  refine ⟨s9, t9.1, t9.2, 2 * n9, ?_, ?_, i, hF⟩
  · obtain ⟨n, hn⟩ : ∃ n, N = n + 1 + (16 - ng) + ng := ⟨N - 17, by omega⟩
    unfold f_X4_takeFromClocks
    rw [if_pos (show k < 20 by omega)]
    have a := e1 (n + 1 + (16 - ng))
    have b := ei (n + 1)
    rw [show ng + (16 - ng) = 16 by omega] at b
    have a : f_X4_takeFromClocks_11 N k (n + 1 + (16 - ng) + ng) σ 0 = _ := a
    rw [← hn] at a
    rw [a]
    refine b.trans ?_
    show f_X4_takeFromClocks_11 N k (n + 1) s9 16 = _
    rw [f_X4_takeFromClocks_11, if_pos (show k < 20 by omega), if_pos (Int32.le_refl _)]
  · have a := e2 n9
    have a : f_X6_collect_36 N (nI k) (2 * (n9 + ng) + 1) ρ (σ 5 k) tk (2 * 0) = f_X6_collect_36 N (nI k) (2 * n9 + 1) t9.1 (σ 5 k) t9.2 (2 * nI ng) := a
    rw [← hn9, ← hM, two_nI] at a
    exact a
def qBad (σ : mSt) (k : Nat) : Int32 := if σ 9 k = 2 then 1 else 0
theorem bad_up {σ : mSt} {n k : Nat} {v : Int32} (hk : k < n) (h0 : σ 9 k = 0) : sI n (qBad (mUp σ 9 k v)) = sI n (qBad σ) + (if v = 2 then 1 else 0) := by
  have e : sI n (qBad (mUp σ 9 k v)) = sI n (mUp (fun _ j => qBad σ j) 0 k (if v = 2 then 1 else 0) 0) := sI_eq (fun j _ => by
    unfold qBad
    by_cases c : j = k
    · subst c; rw [uS, uS]
    · rw [uO c, uO c])
  rw [e, sI_up hk]
  have z : qBad σ k = 0 := by unfold qBad; rw [h0]; rfl
  show sI n (fun j => qBad σ j) + ((if v = 2 then 1 else 0) - qBad σ k) = _
  rw [z, Int32.sub_zero]
/-- what collecting loans leaves as it is -/
def C3 (nl : Nat) (σ σ9 : mSt) : Prop := (∀ f j, f ≠ 1 → f ≠ 6 → f ≠ 19 → f ≠ 25 → f ≠ 9 → f ≠ 29 → σ9 f j = σ f j) ∧ σ9 29 0 - sI nl (qBad σ9) = σ 29 0 - sI nl (qBad σ)
theorem C3.tr {nl : Nat} {σ σ1 σ2 : mSt} (h1 : C3 nl σ σ1) (h2 : C3 nl σ1 σ2) : C3 nl σ σ2 := ⟨fun f j a b c d e i => (h2.1 f j a b c d e i).trans (h1.1 f j a b c d e i), h2.2.trans h1.2⟩
theorem sub_b {a b : Int32} : a + 1 - (b + 1) = a - b := by
  rw [Int32.add_comm b 1, ← o1, Int32.add_sub_cancel]
theorem col1 {N np nl ng B k : Nat} {σ ρ : mSt} (hB : B ≤ 22000000) (hN : 100 ≤ N) (hN2 : N % 2 = 1) (h : Iv np nl ng B 16 σ ρ) (hk : k < nl) (c : σ 9 k = 0) : ∃ v σ1 σ2 σ9 ρ9, f_X4_takeFromPocket N σ k (σ 6 k) = some (v, σ1) ∧ f_X4_takeFromClocks N σ1 k = some ((), σ2) ∧ f_X4_judge N σ2 k = some ((), σ9) ∧ f_X6_collect N ρ (nI k) = some ((), ρ9) ∧ Iv np nl ng B 16 σ9 ρ9 ∧ C3 nl σ σ9 := by
  have hp8 := h.hp
  have hl8 := h.hl
  have hk20 : k < 20 := by omega
  obtain ⟨p, hp, ep⟩ := h.bo k hk
  have bp := h.b1 p hp
  have bk := h.b6 k hk
  have m0 := mMin_I (σ 6 k) (σ 1 p)
  have r1 := h.e1 p hp
  have r15 := h.e15 k hk
  have r16 := h.e16 k hk
  have f3 := fun N => pAt (N := N) hp8 h.c21 hp
  generalize hv : mMin (σ 6 k) (σ 1 p) = v at m0
  have e1 := subI (a := σ 1 p) (b := v) (by omega)
  have e2 := subI (a := σ 6 k) (b := v) (by omega)
  have i1 := iv_25o (iv_6 (iv_1 h (v := σ 1 p - v) hp (by omega)) (v := σ 6 k - v) hk (by omega)) (σ 25 0 + v) (w := 100000 - σ 25 0 - v) o1
  have hvR : vR (mUp ρ 1 p (σ 1 p - v)) k v = mUp (mUp (mUp (mUp ρ 1 p (σ 1 p - v)) 16 k (σ 6 k - v)) 24 0 (σ 25 0 + v)) 26 0 (100000 - σ 25 0 - v) := by
    unfold vR
    rw [uF (show (16 : Nat) ≠ 1 by omega), uF (show (24 : Nat) ≠ 1 by omega), uF (show (26 : Nat) ≠ 1 by omega), r16, h.rs, h.ou]
  rw [← hvR] at i1
  obtain ⟨σ2, ρ2, tk2, n9, a1, a2, a3, a4⟩ := clocks_x (N := N) hB hN hN2 i1 hk
  have s9k : σ2 9 k = 0 := (a4 9 k (by omega) (by omega) (by omega) (by omega)).trans c
  have hfr : ∀ f j, f ≠ 1 → f ≠ 6 → f ≠ 19 → f ≠ 25 → σ2 f j = σ f j := fun f j h1 h6 h19 h25 => (a4 f j h1 h6 h19 h25).trans (by rw [uF h25, uF h6, uF h1])
  have hbad : sI nl (qBad σ2) = sI nl (qBad σ) := sI_eq (fun j _ => by unfold qBad; rw [hfr 9 j (by omega) (by omega) (by omega) (by omega)])
  have e16 : ρ2 16 k - tk2 = σ2 6 k := (uS (σ := ρ2) (f := 16) (k := k)).symm.trans (a3.e16 k hk)
  have htp : f_X4_takeFromPocket N σ k (σ 6 k) = some (v, mUp (mUp (mUp σ 1 p (σ 1 p - v)) 6 k (σ 6 k - v)) 25 0 (σ 25 0 + v)) := by
    unfold f_X4_takeFromPocket f_X4_bringBack
    simp only [eq_true hk20, ep, f3, bS, oL, eq_true (show p < 8 by omega), mMin_s, hv, ↓reduceIte, uX, Nat.reduceEqDiff, false_and]
  have hcol : f_X6_collect N ρ (nI k) = (if σ2 6 k = 0 then some ((), mUp (vR ρ2 k tk2) 19 k 1) else some ((), mUp (vR ρ2 k tk2) 19 k 2)) := by
    unfold f_X6_collect
    have a2 : f_X6_collect_36 N (nI k) N (mUp ρ 1 p (σ 1 p - v)) (nI p) v 0 = f_X6_collect_36 N (nI k) (n9 + 1) ρ2 (σ 5 k) tk2 (nI (2 * ng)) := by
      rw [← ep]
      exact a2
    simp only [mI_t hk20 (show 20 < 1000 by omega), cl (show k < 1000 by omega), r15, ep, mI_t (show p < 8 by omega) (show 8 < 1000 by omega), cl (show p < 1000 by omega), r1, r16, hv, a2, ↓reduceIte]
    have d22 : ρ2 22 0 = nI ng := a3.d22
    rw [f_X6_collect_36, d22, two_nI]
    unfold f_X6_goBack
    have hs : ((mUp (mUp (mUp ρ2 16 k (ρ2 16 k - tk2)) 24 0 ((mUp ρ2 16 k (ρ2 16 k - tk2)) 24 0 + tk2)) 26 0 ((mUp (mUp ρ2 16 k (ρ2 16 k - tk2)) 24 0 ((mUp ρ2 16 k (ρ2 16 k - tk2)) 24 0 + tk2)) 26 0 - tk2)) 16 k = 0) = (σ2 6 k = 0) := by
      rw [uF (show (16 : Nat) ≠ 26 by omega), uF (show (16 : Nat) ≠ 24 by omega), uS, e16]
    simp only [bS, mI_t hk20 (show 20 < 1000 by omega), cl (show k < 1000 by omega), hs, ↓reduceIte, Int32.le_refl]
    rfl
  by_cases c3 : σ2 6 k = 0
  · refine ⟨v, _, σ2, mUp σ2 9 k 1, _, htp, a1, ?_, hcol.trans (if_pos c3), iv_9 a3 hk (Or.inr (Or.inl rfl)), fun f j h1 h6 h19 h25 h9 h29 => (uF h9).trans (hfr f j h1 h6 h19 h25), ?_⟩
    · unfold f_X4_judge
      rw [if_pos hk20, if_pos c3]
    · rw [bad_up hk s9k, hbad, if_neg (by decide), Int32.add_zero, uF (show (29 : Nat) ≠ 9 by omega), hfr 29 0 (by omega) (by omega) (by omega) (by omega)]
  · refine ⟨v, _, σ2, mUp (mUp σ2 9 k 2) 29 0 (σ2 29 0 + 1), _, htp, a1, ?_, hcol.trans (if_neg c3), iv_29 (iv_9 a3 hk (Or.inr (Or.inr rfl))) (σ2 29 0 + 1), fun f j h1 h6 h19 h25 h9 h29 => (uF h29).trans ((uF h9).trans (hfr f j h1 h6 h19 h25)), ?_⟩
    · unfold f_X4_judge
      rw [if_pos hk20, if_neg c3]
      rfl
    · have eb : sI nl (qBad (mUp (mUp σ2 9 k 2) 29 0 (σ2 29 0 + 1))) = sI nl (qBad (mUp σ2 9 k 2)) := sI_eq (fun j _ => by unfold qBad; rw [uF (show (9 : Nat) ≠ 29 by omega)])
      rw [eb, bad_up hk s9k, hbad, if_pos rfl, uS, sub_b, hfr 29 0 (by omega) (by omega) (by omega) (by omega)]
theorem ph3 {N np nl ng B : Nat} {σ ρ : mSt} {v : Int32} (hB : B ≤ 22000000) (h : Iv np nl ng B 16 σ ρ) (hN : 100 ≤ N) (hN2 : N % 2 = 1) : ∃ σ9 ρ9, f_X4_collectDueLoans N σ = some ((), σ9) ∧ f_X6_pass_198 N N ρ v 0 = f_X6_pass_241 N N ρ9 v 0 ∧ Iv np nl ng B 16 σ9 ρ9 ∧ C3 nl σ σ9 := by
  have hl8 := h.hl
  obtain ⟨s9, t9, e1, e2, i, hF⟩ := lock (F := fun n s i => f_X4_collectDueLoans_10 N n s i) (G := fun n (t : mSt) i => f_X6_pass_198 N n t v i) (m := nl) (fun k s t => Iv np nl ng B 16 s t ∧ C3 nl σ s) (fun k s t hk hR => by
    obtain ⟨i, hF⟩ := hR
    have hk20 : k < 20 := by omega
    have r18 := i.e18 k hk
    have r19 := i.e19 k hk
    have tm := i.tm
    by_cases cs : s 9 k = 0
    · by_cases cd : s 8 k = s 24 0
      · obtain ⟨w, σ1, σ2, σ9, ρ9, a1, a2, a3, a4, a5, a6⟩ := col1 (N := N) hB hN hN2 i hk cs
        refine ⟨σ9, ρ9, fun n => ?_, fun n => ?_, a5, hF.tr a6⟩
        · show f_X4_collectDueLoans_10 N (n + 1) s (nI k) = _
          rw [f_X4_collectDueLoans_10]
          simp only [leF (n := 20) (c := 20) rfl hk20 (by decide), mI_t hk20 (show 20 < 1000 by omega), cl (show k < 1000 by omega), cs, eq_true cd, a1, a2, a3, bS, ↓reduceIte, nI_1]
        · show f_X6_pass_198 N (n + 1) t v (nI k) = _
          rw [f_X6_pass_198, i.d23]
          simp only [leF rfl hk (show nl < 1000 by omega), mI_t hk20 (show 20 < 1000 by omega), cl (show k < 1000 by omega), r18, r19, tm, cs, eq_true cd, a4, bS, ↓reduceIte, nI_1]
      · refine ⟨s, t, fun n => ?_, fun n => ?_, i, hF⟩
        · show f_X4_collectDueLoans_10 N (n + 1) s (nI k) = _
          rw [f_X4_collectDueLoans_10]
          simp only [leF (n := 20) (c := 20) rfl hk20 (by decide), mI_t hk20 (show 20 < 1000 by omega), cl (show k < 1000 by omega), cs, cd, ↓reduceIte, nI_1]
        · show f_X6_pass_198 N (n + 1) t v (nI k) = _
          rw [f_X6_pass_198, i.d23]
          simp only [leF rfl hk (show nl < 1000 by omega), mI_t hk20 (show 20 < 1000 by omega), cl (show k < 1000 by omega), r18, r19, tm, cs, cd, ↓reduceIte, nI_1]
    · refine ⟨s, t, fun n => ?_, fun n => ?_, i, hF⟩
      · show f_X4_collectDueLoans_10 N (n + 1) s (nI k) = _
        rw [f_X4_collectDueLoans_10]
        simp only [leF (n := 20) (c := 20) rfl hk20 (by decide), mI_t hk20 (show 20 < 1000 by omega), cl (show k < 1000 by omega), cs, ↓reduceIte, nI_1]
      · show f_X6_pass_198 N (n + 1) t v (nI k) = _
        rw [f_X6_pass_198, i.d23]
        simp only [leF rfl hk (show nl < 1000 by omega), mI_t hk20 (show 20 < 1000 by omega), cl (show k < 1000 by omega), r19, cs, ↓reduceIte, nI_1]) (s := σ) (t := ρ) ⟨h, fun _ _ _ _ _ _ _ _ => rfl, rfl⟩ nl (Nat.le_refl _)
  have ei := idle (F := fun n s i => f_X4_collectDueLoans_10 N n s i) (m := nl) (M := 20) (s := s9) (fun n k h1 h2 => by
    have cs : ¬ s9 9 k = 0 := by rw [i.lu k h1 h2]; decide
    show f_X4_collectDueLoans_10 N (n + 1) s9 (nI k) = _
    rw [f_X4_collectDueLoans_10]
    simp only [leF (n := 20) (c := 20) rfl h2 (by decide), mI_t h2 (show 20 < 1000 by omega), cl (show k < 1000 by omega), cs, ↓reduceIte, nI_1]) (20 - nl) (by omega)
  refine ⟨s9, t9, ?_, ?_, i, hF⟩
  · obtain ⟨n, hn⟩ : ∃ n, N = n + 1 + (20 - nl) + nl := ⟨N - 21, by omega⟩
    unfold f_X4_collectDueLoans
    have a := e1 (n + 1 + (20 - nl))
    have b := ei (n + 1)
    rw [show nl + (20 - nl) = 20 by omega] at b
    have a : f_X4_collectDueLoans_10 N (n + 1 + (20 - nl) + nl) σ 0 = _ := a
    rw [← hn] at a
    rw [a]
    refine b.trans ?_
    show f_X4_collectDueLoans_10 N (n + 1) s9 20 = _
    rw [f_X4_collectDueLoans_10, if_pos (Int32.le_refl _)]
  · obtain ⟨n, hn⟩ : ∃ n, N = n + 1 + nl := ⟨N - 1 - nl, by omega⟩
    have a := e2 (n + 1)
    have a : f_X6_pass_198 N (n + 1 + nl) ρ v 0 = _ := a
    rw [← hn] at a
    rw [a]
    show f_X6_pass_198 N (n + 1) t9 v (nI nl) = _
    rw [f_X6_pass_198, i.d23, if_pos (Int32.le_refl _)]
