/-! ===== a side wins; a game is stopped ===== -/
theorem uF {σ : mSt} {f k g j : Nat} {x : Int32} (h : g ≠ f) : mUp σ f k x g j = σ g j := by unfold mUp; rw [if_neg (fun e => h e.1)]
/-- what a win leaves as it is -/
def WFr (g : Nat) (σ σ9 : mSt) : Prop := (∀ f k, f ≠ 0 → f ≠ 26 → f ≠ 2 → f ≠ 3 → f ≠ 17 → σ9 f k = σ f k) ∧ (∀ k, k ≠ g → σ9 17 k = σ 17 k) ∧ σ9 17 g ≠ 0
def wSt (σ : mSt) (g pw pl : Nat) (st : Int32) : mSt := mUp (mUp (mUp (mUp (mUp σ 0 pw (σ 0 pw + (2 * σ 13 g - 2 * σ 13 g / 10))) 26 0 (σ 26 0 + 2 * σ 13 g / 10)) 2 pw (σ 2 pw + 1)) 3 pl (σ 3 pl + 1)) 17 g st
def wRt (ρ : mSt) (g pw pl : Nat) (stk st c0 c25 c2 c3 : Int32) : mSt := mUp (mUp (mUp (mUp (mUp ρ 14 g st) 25 0 (c25 + 2 * stk / 10)) 0 pw (c0 + (2 * stk - 2 * stk / 10))) 2 pw (c2 + 1)) 3 pl (c3 + 1)
theorem wFr_ok {σ : mSt} {g pw pl : Nat} {st : Int32} (h : st ≠ 0) : WFr g σ (wSt σ g pw pl st) := by
  unfold wSt
  refine ⟨fun f k h0 h26 h2 h3 h17 => ?_, fun k hk => ?_, ?_⟩
  · rw [uF h17, uF h3, uF h2, uF h26, uF h0]
  · rw [uO hk]; rfl
  · rw [uS]; exact h
theorem win_sp {np nl ng B x g s : Nat} {σ ρ : mSt} {N : Nat} (h : Iv np nl ng B x σ ρ) (hB : B ≤ 22000000) (hg : g < ng) (hs : s < 2) {x9 : Nat} (hx : ∀ q, q < ng → q ≠ x9 → q ≠ g → q ≠ x) : ∃ v σ9 ρ9, f_X4_awardTo N σ g (nI s) = some (v, σ9) ∧ f_X6_win N ρ (nI g) (nI s) = some (v, ρ9) ∧ Iv np nl ng (B + 1) x9 σ9 ρ9 ∧ WFr g σ σ9 := by
  have hp8 := h.hp
  have hg8 := h.hg
  obtain ⟨pa, ha, ea⟩ := h.pl (2 * g) (by omega)
  obtain ⟨pb, hb, eb⟩ := h.pl (2 * g + 1) (by omega)
  have fa := fun N => pAt (N := N) hp8 h.c21 ha
  have fb := fun N => pAt (N := N) hp8 h.c21 hb
  have lg : (g < 16) = True := eq_true (by omega)
  have l0 : (2 * g < 32) = True := eq_true (by omega)
  have l1 : (2 * g + 1 < 32) = True := eq_true (by omega)
  have la : (pa < 8) = True := eq_true (by omega)
  have lb : (pb < 8) = True := eq_true (by omega)
  have ma := mI_t (show pa < 8 by omega) (show 8 < 1000 by omega)
  have mb := mI_t (show pb < 8 by omega) (show 8 < 1000 by omega)
  have mg := mI_t (show g < 16 by omega) (show 16 < 1000 by omega)
  have m0 := mI_t (show 2 * g < 32 by omega) (show 32 < 1000 by omega)
  have m1 := mI_t (show 2 * g + 1 < 32 by omega) (show 32 < 1000 by omega)
  have ca := cl (show pa < 1000 by omega)
  have cb := cl (show pb < 1000 by omega)
  have cg := cl (show g < 1000 by omega)
  have c0 := cl (show 2 * g < 1000 by omega)
  have c1 := cl (show 2 * g + 1 < 1000 by omega)
  have z : ¬ (1 : Int32) = 0 := by decide
  have r5a := h.e5 (2 * g) (by omega)
  have r5b := h.e5 (2 * g + 1) (by omega)
  have r10 := h.e10 g hg
  have i0 := iv_B h (B9 := B + 1) (by omega)
  have k1 : (nI 0 : Int32) = 0 := rfl
  have k2 : (nI 1 : Int32) = 1 := rfl
  have k3 : (1 : Int32) + 0 = 1 := rfl
  have k4 : (1 : Int32) + 1 = 2 := rfl
  match s, hs with
  | 0, _ =>
    have w2 := h.b2 pa ha
    have w3 := h.b3 pb hb
    have e2 := addI (a := σ 2 pa) (b := 1) (by rw [t1]; omega)
    have e3 := addI (a := σ 3 pb) (b := 1) (by rw [t1]; omega)
    rw [t1] at e2 e3
    refine ⟨2 * σ 13 g - 2 * σ 13 g / 10, wSt σ g pa pb 1, wRt ρ g pa pb (σ 13 g) 1 (σ 0 pa) (σ 26 0) (σ 2 pa) (σ 3 pb), ?_, ?_, ?_, wFr_ok (by decide)⟩
    · unfold f_X4_awardTo f_X0_sideAt wSt
      simp only [k1, s10, lg, l0, l1, la, lb, fa, fb, ea, eb, z, bS, oL, ↓reduceIte, uX, Nat.reduceEqDiff, false_and, and_false]
    · unfold f_X6_win wRt
      simp only [k1, k3, mg, m0, m1, ma, mb, ca, cb, cg, c0, c1, two_nI, nI_1, Int32.add_zero, Int32.sub_zero, ↓reduceIte, uX, Nat.reduceEqDiff, false_and, and_false, r5a, r5b, ea, eb, r10, h.bk, h.e0 pa ha, h.e2 pa ha, h.e3 pb hb]
    · have i1 := iv_17 (iv_3 (iv_2 (iv_26 (iv_0 i0 pa (σ 0 pa + (2 * σ 13 g - 2 * σ 13 g / 10))) (σ 26 0 + 2 * σ 13 g / 10)) (p := pa) (v := σ 2 pa + 1) ha (by omega)) (p := pb) (v := σ 3 pb + 1) hb (by omega)) (x9 := x9) (v := 1) hg (Or.inl rfl) hx
      exact iv_R i1
  | 1, _ =>
    have w2 := h.b2 pb hb
    have w3 := h.b3 pa ha
    have e2 := addI (a := σ 2 pb) (b := 1) (by rw [t1]; omega)
    have e3 := addI (a := σ 3 pa) (b := 1) (by rw [t1]; omega)
    rw [t1] at e2 e3
    refine ⟨2 * σ 13 g - 2 * σ 13 g / 10, wSt σ g pb pa 2, wRt ρ g pb pa (σ 13 g) 2 (σ 0 pb) (σ 26 0) (σ 2 pb) (σ 3 pa), ?_, ?_, ?_, wFr_ok (by decide)⟩
    · unfold f_X4_awardTo f_X0_sideAt wSt
      simp only [k2, s11, lg, l0, l1, la, lb, fa, fb, ea, eb, z, bS, oL, ↓reduceIte, uX, Nat.reduceEqDiff, false_and, and_false]
    · unfold f_X6_win wRt
      simp only [k2, k4, mg, m0, m1, ma, mb, ca, cb, cg, c0, c1, two_nI, nI_1, nI_pred, Int32.add_sub_cancel, ↓reduceIte, uX, Nat.reduceEqDiff, false_and, and_false, r5a, r5b, ea, eb, r10, h.bk, h.e0 pb hb, h.e2 pb hb, h.e3 pa ha]
    · have i1 := iv_17 (iv_3 (iv_2 (iv_26 (iv_0 i0 pb (σ 0 pb + (2 * σ 13 g - 2 * σ 13 g / 10))) (σ 26 0 + 2 * σ 13 g / 10)) (p := pb) (v := σ 2 pb + 1) hb (by omega)) (p := pa) (v := σ 3 pa + 1) ha (by omega)) (x9 := x9) (v := 2) hg (Or.inr (Or.inl rfl)) hx
      exact iv_R i1
  | s + 2, hs => exact absurd hs (by omega)
theorem stop_sp {np nl ng B x g : Nat} {σ ρ : mSt} {N : Nat} (h : Iv np nl ng B x σ ρ) (hN : 100 ≤ N) (hg : g < ng) : ∃ σ9 ρ9, f_X4_stop N σ g = some ((), σ9) ∧ f_X6_stop N ρ (nI g) = some ((), ρ9) ∧ Iv np nl ng B x σ9 ρ9 := by
  have hp8 := h.hp
  have hg8 := h.hg
  obtain ⟨pa, ha, ea⟩ := h.pl (2 * g) (by omega)
  obtain ⟨pb, hb, eb⟩ := h.pl (2 * g + 1) (by omega)
  have fa := fun N => pAt (N := N) hp8 h.c21 ha
  have lg : (g < 16) = True := eq_true (by omega)
  have la : (pa < 8) = True := eq_true (by omega)
  have lb : (pb < 8) = True := eq_true (by omega)
  have ma := mI_t (show pa < 8 by omega) (show 8 < 1000 by omega)
  have mb := mI_t (show pb < 8 by omega) (show 8 < 1000 by omega)
  have mg := mI_t (show g < 16 by omega) (show 16 < 1000 by omega)
  have m0 := mI_t (show 2 * g < 32 by omega) (show 32 < 1000 by omega)
  have m1 := mI_t (show 2 * g + 1 < 32 by omega) (show 32 < 1000 by omega)
  have ca := cl (show pa < 1000 by omega)
  have cb := cl (show pb < 1000 by omega)
  have cg := cl (show g < 1000 by omega)
  have c0 := cl (show 2 * g < 1000 by omega)
  have c1 := cl (show 2 * g + 1 < 1000 by omega)
  have hne : pb ≠ pa := fun e => h.ne g hg (by rw [ea, eb, e])
  have npp : (pb = pa) = False := eq_false hne
  have r5a := h.e5 (2 * g) (by omega)
  have r5b := h.e5 (2 * g + 1) (by omega)
  have r10 := h.e10 g hg
  have z0 : ((2 : Int32) ≤ 0) = False := eq_false (by decide)
  have z1 : ((2 : Int32) ≤ 1) = False := eq_false (by decide)
  have z2 : ((2 : Int32) ≤ 2) = True := eq_true (Int32.le_refl _)
  have k3 : (0 : Int32) + 1 = 1 := rfl
  have k4 : (1 : Int32) + 1 = 2 := rfl
  have i1 := iv_17 (iv_0 (iv_0 h pa (σ 0 pa + σ 13 g)) pb (σ 0 pb + σ 13 g)) (x9 := x) (g := g) (v := 3) hg (Or.inr (Or.inr rfl)) (fun q _ a _ => a)
  refine ⟨_, mUp (mUp (mUp ρ 14 g 3) 0 pa (σ 0 pa + σ 13 g)) 0 pb (σ 0 pb + σ 13 g), ?_, ?_, iv_R i1⟩
  · have i2 := iv_0 h pa (σ 0 pa + σ 13 g)
    have fb := fun N => pAt (N := N) hp8 i2.c21 hb
    unfold f_X4_stop
    simp only [lg, la, lb, fa, ea, eb, bS, oL, ↓reduceIte, uX, Nat.reduceEqDiff, false_and, and_false, fb, true_and, npp]
  · unfold f_X6_stop
    obtain ⟨n, hn⟩ : ∃ n, N = n + 1 + 1 + 1 := ⟨N - 3, by omega⟩
    rw [hn, if_pos (mI_in (show g < 16 by omega) (show 16 < 1000 by omega))]
    rw [f_X6_stop_9, f_X6_stop_9, f_X6_stop_9]
    simp only [z0, z1, z2, k3, k4, mg, m0, m1, ma, mb, ca, cb, cg, c0, c1, two_nI, nI_1, Int32.add_zero, ↓reduceIte, uX, Nat.reduceEqDiff, false_and, and_false, true_and, r5a, r5b, ea, eb, r10, npp, h.e0 pa ha, h.e0 pb hb]
theorem g_end {N np nl ng B : Nat} {σ τ ρ α : mSt} {th : Int32} (h : Iv np nl ng B 16 σ ρ) (hB : B ≤ 21000000) (hN : 100 ≤ N) (a1 a2 : Int32) : ∃ o r th9 σ9 ρ9, f_X5_end N σ τ a1 a2 = some (o, σ9, τ) ∧ f_X7_end N th ρ α a1 a2 = some (r, th9, ρ9, α) ∧ An lISA o r th9 ∧ Iv np nl ng (B + 40000) 16 σ9 ρ9 := by
  have hg8 := h.hg
  have h2 := iv_B h (B9 := B + 40000) (by omega)
  rcases idx a1 (show ng < 1000 by omega) with ⟨g, hg, rfl⟩ | ho
  · have f1 := fun N => gAt (N := N) hg8 h.c23 hg
    have f2 := fun N => isGm (N := N) (th := 0) (α := α) (show ng < 1000 by omega) h.d22 hg
    have lt : (g < 16) = True := eq_true (by omega)
    have rr := fun N => r_runs (N := N) h hg
    have z : ¬ (1 : Int32) = 0 := by decide
    by_cases c1 : -1 ≤ a2 ∧ a2 ≤ 1
    · by_cases c2 : σ 17 g = 0
      · have c19 := c1
        have km : (-1 : Int32).toInt = -1 := by decide
        rw [leI, leI, t1, km] at c19
        by_cases c3 : a2 = -1
        · subst c3
          obtain ⟨σ9, ρ9, e1, e2, i⟩ := stop_sp (N := N) h hN hg
          have lm : (-1 : Int32) < 0 := by decide
          apply g_mk
          · unfold f_X5_end f_X0_runs
            simp only [f1, bS, oL, lt, iO c1, c2, one0, e1, ↓reduceIte]
            rfl
          · unfold f_X7_end
            simp only [f2, bS, iI c1, one0, rr, c2, lm, e2, ↓reduceIte]
            rfl
          · exact An.ok
          · exact iv_B i (by omega)
        · have hs : ∃ s, s < 2 ∧ a2 = nI s := by
            have : a2.toInt ≠ -1 := fun e => c3 (Int32.toInt_inj.mp (e.trans km.symm))
            rcases idx a2 (show 2 < 1000 by omega) with ⟨s, hs, e⟩ | x
            · exact ⟨s, hs, e⟩
            · rw [lI, leI, t0, nIt (by omega)] at x
              omega
          obtain ⟨s, hs, rfl⟩ := hs
          have e1s : (1 : Int32) - nI s = nI (1 - s) := by
            match s, hs with
            | 0, _ => rfl
            | 1, _ => rfl
            | s + 2, hs => exact absurd hs (by omega)
          obtain ⟨v, σ9, ρ9, e1, e2, i, -⟩ := win_sp (N := N) (s := 1 - s) (x9 := 16) h (by omega) hg (by omega) (fun q _ a _ => a)
          have lm : ¬ nI s < 0 := nI_pos (by omega)
          apply g_mk
          · unfold f_X5_end f_X0_runs
            simp only [f1, bS, oL, lt, iO c1, c2, one0, c3, e1s, e1, ↓reduceIte]
            rfl
          · unfold f_X7_end
            simp only [f2, bS, iI c1, one0, rr, c2, lm, e1s, e2, ↓reduceIte]
            rfl
          · exact An.ok
          · exact iv_B i (by omega)
      · apply g_mk
        · unfold f_X5_end f_X0_runs
          simp only [f1, bS, oL, lt, iO c1, c2, ↓reduceIte]
          rfl
        · unfold f_X7_end
          simp only [f2, bS, iI c1, one0, rr, c2, no0, ↓reduceIte]
          rfl
        · exact An.no 2 rfl
        · exact h2
    · apply g_mk
      · unfold f_X5_end
        simp only [f1, bS, oL, lt, iO_o c1, one0, ↓reduceIte]
        rfl
      · unfold f_X7_end
        simp only [f2, bS, iI_o c1, one0, no0, ↓reduceIte]
        rfl
      · exact An.no 1 rfl
      · exact h2
  · apply g_mk
    · unfold f_X5_end
      simp only [gAt_o h.c23 ho, bS, oR]
      rfl
    · unfold f_X7_end
      simp only [isGm_o (show ng < 1000 by omega) h.d22 ho, bS, ↓reduceIte, no0]
      rfl
    · exact An.no 0 rfl
    · exact h2
