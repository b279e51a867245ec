/-! ===== a second: thieves ===== -/
def L4 (σ σ9 : mSt) : Prop := ∀ f j, f ≠ 4 → f ≠ 19 → f ≠ 20 → f ≠ 27 → σ9 f j = σ f j
theorem L4.tr {σ σ1 σ2 : mSt} (h1 : L4 σ σ1) (h2 : L4 σ1 σ2) : L4 σ σ2 := fun f j a b c d => (h2 f j a b c d).trans (h1 f j a b c d)
theorem half {x : Int32} {B : Nat} (h : 0 ≤ x.toInt ∧ x.toInt ≤ B) : 0 ≤ (x / 2).toInt ∧ (x / 2).toInt ≤ B := by
  rw [Int32.toInt_div_of_ne_right _ _ (by decide), t2, Int.tdiv_eq_ediv_of_nonneg h.1]
  omega
theorem insp {N np nl ng B g t : Nat} {σ ρ : mSt} (hB : B ≤ 22000000) (h : Iv np nl ng B 16 σ ρ) (hg : g < ng) (ht : t < 2) (hr : σ 17 g = 0) : ∃ σ9 ρ9, f_X4_inspect N σ (2 * g + t) (2 * g + 1 - t) = some ((), σ9) ∧ (∀ n, f_X6_look_2 N (nI g) (n + 1) ρ (nI t) = f_X6_look_2 N (nI g) n ρ9 (nI (t + 1))) ∧ Iv np nl ng B 16 σ9 ρ9 ∧ L4 σ σ9 := by
  have hg8 := h.hg
  have hp8 := h.hp
  obtain ⟨e1, e2, e3, -⟩ := idx_t ht (show g < 16 by omega)
  obtain ⟨f1, f2, f3, -⟩ := idx_t (t := 1 - t) (by omega) (show g < 16 by omega)
  have e4 : 2 * nI g + 1 - nI t = nI (2 * g + (1 - t)) := by
    match t, ht with
    | 0, _ => rw [two_nI, nI_1]; exact Int32.sub_zero _
    | 1, _ => rw [two_nI, nI_1]; exact nI_pred _
    | t + 2, h => exact absurd h (by omega)
  have eo : 2 * g + 1 - t = 2 * g + (1 - t) := by omega
  rw [eo]
  have e2 := eq_true e2
  have f2 := eq_true f2
  have li : (2 * g + t < 32) = True := eq_true (by omega)
  have lo : (2 * g + (1 - t) < 32) = True := eq_true (by omega)
  have ln : (2 * g + (1 - t) = 2 * g + t) = False := eq_false (by omega)
  have ln2 : (2 * g + t = 2 * g + (1 - t)) = False := eq_false (by omega)
  obtain ⟨b1, b2, b3⟩ := h.b19 g hg (by omega) hr
  have bs := h.b20 (2 * g + t) (by omega)
  have r7 := h.e7 (2 * g + t) (by omega)
  have r5 := h.e5 (2 * g + t) (by omega)
  have r6 := h.e6 (2 * g + t) (by omega)
  have r6o := h.e6 (2 * g + (1 - t)) (by omega)
  have z2 : ((2 : Int32) ≤ nI t) = False := leF (n := 2) (c := 2) rfl ht (by decide)
  obtain ⟨p, hp, ep⟩ := h.pl (2 * g + t) (by omega)
  by_cases c : 15 ≤ σ 20 (2 * g + t)
  · have bi : 1 ≤ (σ 19 (2 * g + t)).toInt ∧ 1 ≤ (σ 19 (2 * g + (1 - t))).toInt ∧ (σ 19 (2 * g + t)).toInt + (σ 19 (2 * g + (1 - t))).toInt ≤ 14400 + B := by
      match t, ht with
      | 0, _ => exact ⟨b1, b2, b3⟩
      | 1, _ => exact ⟨b2, b1, by show (σ 19 (2 * g + 1)).toInt + (σ 19 (2 * g)).toInt ≤ _; omega⟩
      | t + 2, h => exact absurd h (by omega)
    have ec := subI (a := σ 19 (2 * g + t)) (b := 1) (by rw [t1]; omega)
    rw [t1] at ec
    have em := mulI (a := 2) (b := σ 20 (2 * g + t)) (by rw [t2]; omega)
    rw [t2] at em
    have mw := mMin_I (2 * σ 20 (2 * g + t)) (σ 19 (2 * g + t) - 1)
    rw [ec, em] at mw
    generalize hw : mMin (2 * σ 20 (2 * g + t)) (σ 19 (2 * g + t) - 1) = w at mw
    have d1 := subI (a := σ 19 (2 * g + t)) (b := w) (by omega)
    have d2 := addI (a := σ 19 (2 * g + (1 - t))) (b := w) (by omega)
    have ia : Iv np nl ng B 16 (mUp (mUp σ 19 (2 * g + t) (σ 19 (2 * g + t) - w)) 19 (2 * g + (1 - t)) (σ 19 (2 * g + (1 - t)) + w)) (mUp (mUp ρ 6 (2 * g + t) (σ 19 (2 * g + t) - w)) 6 (2 * g + (1 - t)) (σ 19 (2 * g + (1 - t)) + w)) := by
      match t, ht with
      | 0, _ =>
        have d1 : (σ 19 (2 * g) - w).toInt = (σ 19 (2 * g)).toInt - w.toInt := d1
        have d2 : (σ 19 (2 * g + 1) + w).toInt = (σ 19 (2 * g + 1)).toInt + w.toInt := d2
        have mw : w.toInt = min (2 * (σ 20 (2 * g)).toInt) ((σ 19 (2 * g)).toInt - 1) := mw
        have bs : 0 ≤ (σ 20 (2 * g)).toInt ∧ _ := bs
        have i1 := iv_19a (x9 := 16) (g := g) (v := σ 19 (2 * g) - w) h (fun _ _ q => q) (fun _ _ _ => by omega)
        refine iv_19b (x9 := 16) (g := g) i1 (fun _ _ q => q) (fun _ _ _ => ?_)
        show 1 ≤ (σ 19 (2 * g + 1) + w).toInt ∧ (mUp σ 19 (2 * g) (σ 19 (2 * g) - w) 19 (2 * g)).toInt + (σ 19 (2 * g + 1) + w).toInt ≤ _
        rw [uS, d1, d2]
        omega
      | 1, _ =>
        have d2 : (σ 19 (2 * g) + w).toInt = (σ 19 (2 * g)).toInt + w.toInt := d2
        have i1 := iv_19b (x9 := 16) (g := g) (v := σ 19 (2 * g + 1) - w) h (fun _ _ q => q) (fun _ _ _ => by omega)
        refine iv_19a (x9 := 16) (g := g) i1 (fun _ _ q => q) (fun _ _ _ => ?_)
        show 1 ≤ (σ 19 (2 * g) + w).toInt ∧ (σ 19 (2 * g) + w).toInt + (mUp σ 19 (2 * g + 1) (σ 19 (2 * g + 1) - w) 19 (2 * g + 1)).toInt ≤ _
        rw [uS, d1, d2]
        omega
      | t + 2, h => exact absurd h (by omega)
    have ib := iv_20 ia (i := 2 * g + t) (v := 0) (by omega) ⟨by rw [t0]; omega, by rw [t0]; omega⟩
    have fp := fun N => pAt (N := N) hp8 ib.c21 hp
    have r4 := h.e4 p hp
    have ic := iv_4 ib hp
    refine ⟨_, mUp (mUp (mUp (mUp ρ 6 (2 * g + t) (σ 19 (2 * g + t) - w)) 6 (2 * g + (1 - t)) (σ 19 (2 * g + (1 - t)) + w)) 7 (2 * g + t) 0) 4 p (ρ 4 p + 1), ?_, fun n => ?_, ic, fun f j h4 h19 h20 h27 => ?_⟩
    · unfold f_X4_inspect f_X3_giveTo f_X3_giveUpTo
      simp only [li, lo, eq_true c, bS, hw, ↓reduceIte, uX, Nat.reduceEqDiff, false_and, true_and, ln, ep, fp, oL, eq_true (show p < 8 by omega)]
    · rw [f_X6_look_2]
      simp only [z2, e1, e2, e3, e4, f2, f3, r7, eq_true c, r6, r6o, hw, ↓reduceIte, uX, Nat.reduceEqDiff, false_and, true_and, ln, r5, ep, mI_t (show p < 8 by omega) (show 8 < 1000 by omega), cl (show p < 1000 by omega), nI_1]
    · rw [uF h27, uF h4, uF h20, uF h19, uF h19]
  · refine ⟨_, _, ?_, fun n => ?_, iv_20 h (i := 2 * g + t) (v := σ 20 (2 * g + t) / 2) (by omega) (half bs), fun f j _ _ h20 _ => uF h20⟩
    · unfold f_X4_inspect
      simp only [li, lo, c, ↓reduceIte]
    · rw [f_X6_look_2]
      simp only [z2, e1, e2, e3, r7, c, ↓reduceIte, nI_1]
theorem ph4_no {N np nl ng B : Nat} {σ ρ : mSt} {v : Int32} (h : Iv np nl ng B 16 σ ρ) (hN : 100 ≤ N) (c : ¬ σ 24 0 - σ 24 0 / 30 * 30 = 0) : f_X6_pass_241 N N ρ v 0 = some (v, ρ) := by
  obtain ⟨n, hn⟩ : ∃ n, N = n + 1 := ⟨N - 1, by omega⟩
  have e : f_X6_pass_241 N (n + 1) ρ v 0 = some (v, ρ) := by
    rw [f_X6_pass_241, h.tm]
    simp only [c, ↓reduceIte, ite_self]
  rw [← hn] at e
  exact e
theorem ph4 {N np nl ng B : Nat} {σ ρ : mSt} {v : Int32} (hB : B ≤ 22000000) (h : Iv np nl ng B 16 σ ρ) (hN : 100 ≤ N) (c : σ 24 0 - σ 24 0 / 30 * 30 = 0) : ∃ σ9 ρ9, f_X4_lookForThieves N σ = some ((), σ9) ∧ f_X6_pass_241 N N ρ v 0 = some (v, ρ9) ∧ Iv np nl ng B 16 σ9 ρ9 ∧ L4 σ σ9 := by
  have hg8 := h.hg
  obtain ⟨s9, t9, e1, e2, i, hF⟩ := lock (F := fun n s i => f_X4_lookForThieves_10 N n s i) (G := fun n (t : mSt) i => f_X6_pass_241 N n t v i) (m := ng) (fun k s t => Iv np nl ng B 16 s t ∧ L4 σ s) (fun g s t hg hR => by
    obtain ⟨i, hF⟩ := hR
    have hg16 : g < 16 := by omega
    have ct : s 24 0 - s 24 0 / 30 * 30 = 0 := by rw [hF 24 0 (by omega) (by omega) (by omega) (by omega)]; exact c
    have tm := i.tm
    by_cases cs : s 17 g = 0
    · obtain ⟨σ1, ρ1, a1, a2, a3, a4⟩ := insp (N := N) (t := 0) hB i hg (by omega) cs
      have c1 : σ1 17 g = 0 := (a4 17 g (by omega) (by omega) (by omega) (by omega)).trans cs
      obtain ⟨σ2, ρ2, b1, b2, b3, b4⟩ := insp (N := N) (t := 1) hB a3 hg (by omega) c1
      have hlk : f_X6_look N t (nI g) = some ((), ρ2) := by
        unfold f_X6_look
        obtain ⟨n, hn⟩ : ∃ n, N = n + 1 + 1 + 1 := ⟨N - 3, by omega⟩
        have q : f_X6_look_2 N (nI g) (n + 1 + 1 + 1) t 0 = some ((), ρ2) := by
          refine (a2 (n + 1 + 1)).trans ((b2 (n + 1)).trans ?_)
          show f_X6_look_2 N (nI g) (n + 1) ρ2 2 = _
          rw [f_X6_look_2, if_pos (Int32.le_refl _)]
        rw [← hn] at q
        exact q
      refine ⟨σ2, ρ2, fun n => ?_, fun n => ?_, b3, (hF.tr a4).tr b4⟩
      · show f_X4_lookForThieves_10 N (n + 1) s (nI g) = _
        rw [f_X4_lookForThieves_10]
        unfold f_X0_runs
        have a1 : f_X4_inspect N s (2 * g) (2 * g + 1) = some ((), σ1) := a1
        have b1 : f_X4_inspect N σ1 (2 * g + 1) (2 * g) = some ((), σ2) := b1
        simp only [leF (n := 16) (c := 16) rfl hg16 (by decide), mI_t hg16 (show 16 < 1000 by omega), cl (show g < 1000 by omega), cs, bS, one0, a1, b1, ↓reduceIte, eq_true hg16, nI_1]
      · show f_X6_pass_241 N (n + 1) t v (nI g) = _
        rw [f_X6_pass_241, i.d22, tm]
        simp only [leF rfl hg (show ng < 1000 by omega), eq_true ct, r_runs i hg, cs, bS, one0, hlk, ↓reduceIte, nI_1]
    · refine ⟨s, t, fun n => ?_, fun n => ?_, i, hF⟩
      · show f_X4_lookForThieves_10 N (n + 1) s (nI g) = _
        rw [f_X4_lookForThieves_10]
        unfold f_X0_runs
        simp only [leF (n := 16) (c := 16) rfl hg16 (by decide), mI_t hg16 (show 16 < 1000 by omega), cl (show g < 1000 by omega), cs, bS, ↓reduceIte, eq_true hg16, nI_1]
      · show f_X6_pass_241 N (n + 1) t v (nI g) = _
        rw [f_X6_pass_241, i.d22, tm]
        simp only [leF rfl hg (show ng < 1000 by omega), eq_true ct, r_runs i hg, cs, bS, ↓reduceIte, nI_1]) (s := σ) (t := ρ) ⟨h, fun _ _ _ _ _ _ => rfl⟩ ng (Nat.le_refl _)
  have ei := idle (F := fun n s i => f_X4_lookForThieves_10 N n s i) (m := ng) (M := 16) (s := s9) (fun n g h1 h2 => by
    have cs : ¬ s9 17 g = 0 := by rw [i.gu g h1 h2]; decide
    show f_X4_lookForThieves_10 N (n + 1) s9 (nI g) = _
    rw [f_X4_lookForThieves_10]
    unfold f_X0_runs
    simp only [leF (n := 16) (c := 16) rfl h2 (by decide), mI_t h2 (show 16 < 1000 by omega), cl (show g < 1000 by omega), cs, bS, ↓reduceIte, eq_true h2, nI_1]) (16 - ng) (by omega)
  refine ⟨s9, t9, ?_, ?_, i, hF⟩
  · obtain ⟨n, hn⟩ : ∃ n, N = n + 1 + (16 - ng) + ng := ⟨N - 17, by omega⟩
    unfold f_X4_lookForThieves
    have a := e1 (n + 1 + (16 - ng))
    have b := ei (n + 1)
    rw [show ng + (16 - ng) = 16 by omega] at b
    have a : f_X4_lookForThieves_10 N (n + 1 + (16 - ng) + ng) σ 0 = _ := a
    rw [← hn] at a
    rw [a]
    refine b.trans ?_
    show f_X4_lookForThieves_10 N (n + 1) s9 16 = _
    rw [f_X4_lookForThieves_10, if_pos (Int32.le_refl _)]
  · obtain ⟨n, hn⟩ : ∃ n, N = n + 1 + ng := ⟨N - 1 - ng, by omega⟩
    have a := e2 (n + 1)
    have a : f_X6_pass_241 N (n + 1 + ng) ρ v 0 = _ := a
    rw [← hn] at a
    rw [a]
    show f_X6_pass_241 N (n + 1) t9 v (nI ng) = _
    rw [f_X6_pass_241, i.d22, if_pos (Int32.le_refl _)]
