/-! ===== a whole second; pass ===== -/
def Sec (nl ng : Nat) (σ σ9 : mSt) (m : Nat) : Prop :=
  m ≤ 16 ∧ σ9 28 0 = σ 28 0 + nI m ∧ σ9 29 0 - sI nl (qBad σ9) = σ 29 0 - sI nl (qBad σ) ∧ (∀ g, σ 17 g ≠ 0 → σ9 17 g = σ 17 g) ∧ (m = 0 → σ9 30 0 = σ 30 0 ∧ σ9 31 0 = σ 31 0 ∧ ∀ g, σ9 17 g = σ 17 g) ∧ (σ 28 0 = 0 → 0 < m → ∃ g, g < ng ∧ σ9 30 0 = nI g ∧ σ9 31 0 = σ9 24 0 ∧ σ 17 g = 0 ∧ σ9 17 g ≠ 0 ∧ ∀ q, q < g → σ9 17 q = σ 17 q) ∧ (0 < (σ 28 0).toInt → σ9 30 0 = σ 30 0 ∧ σ9 31 0 = σ 31 0)
theorem second {N np nl ng B : Nat} {σ ρ : mSt} (h : Iv np nl ng B 16 σ ρ) (hB : B + 32 ≤ 21900000) (hN : 100 ≤ N) (hN2 : N % 2 = 1) (hf : 0 ≤ (σ 28 0).toInt ∧ (σ 28 0).toInt ≤ 1000000) : ∃ σ9 ρ9 m, (∀ (a1 : Int32) (n : Nat) (v2 : Int32), ¬ a1 ≤ v2 → f_X4_letGoBy_6 N a1 (n + 1) σ v2 = f_X4_letGoBy_6 N a1 n σ9 (v2 + 1)) ∧ f_X6_pass N ρ = some (nI m, ρ9) ∧ Iv np nl ng (B + 32) 16 σ9 ρ9 ∧ Sec nl ng σ σ9 m := by
  have hg8 := h.hg
  have i0 := iv_24 h (σ 24 0 + 1)
  obtain ⟨σ1, ρ1, m, a1, a2, a3, a4⟩ := ph1 (N := N) i0 hB hN hf
  have tm := h.tm
  have hp0 : f_X6_pass N ρ = f_X6_pass_14 N N (mUp ρ 20 0 (σ 24 0 + 1)) 0 0 := by
    unfold f_X6_pass
    rw [tm]
  obtain ⟨hE1, hE2, hE3, hE4, hE5, hE6, hE7, hE8, hE9, hE10⟩ := a4
  -- interest
  have h2 : ∃ σ2 ρ2, (∀ (b1 : Int32) (rec6 : mSt → Int32 → Option (Unit × mSt)) (v2 : Int32), (if ((σ1 24 0) - (σ1 24 0) / 60 * 60) = 0 then (f_X4_addInterest N σ1).bind fun q15 => f_X4_letGoBy_39 N b1 rec6 q15.2 v2 else f_X4_letGoBy_39 N b1 rec6 σ1 v2) = f_X4_letGoBy_39 N b1 rec6 σ2 v2) ∧ f_X6_pass_126 N N ρ1 (nI m) 0 = f_X6_pass_198 N N ρ2 (nI m) 0 ∧ Iv np nl ng (B + 32) 16 σ2 ρ2 ∧ ∀ f j, f ≠ 6 → σ2 f j = σ1 f j := by
    by_cases c : σ1 24 0 - σ1 24 0 / 60 * 60 = 0
    · obtain ⟨σ2, ρ2, b1, b2, b3, b4⟩ := ph2 (N := N) (v := nI m) a3 hN c
      exact ⟨σ2, ρ2, fun _ _ _ => by rw [if_pos c, b1]; rfl, b2, b3, b4⟩
    · exact ⟨σ1, ρ1, fun _ _ _ => if_neg c, ph2_no a3 hN c, a3, fun _ _ _ => rfl⟩
  obtain ⟨σ2, ρ2, b1, b2, b3, b4⟩ := h2
  obtain ⟨σ3, ρ3, c1, c2, c3, c4⟩ := ph3 (N := N) (v := nI m) (by omega) b3 hN hN2
  have h4 : ∃ σ4 ρ4, (∀ (rec6 : mSt → Int32 → Option (Unit × mSt)) (v2 : Int32), (if ((σ3 24 0) - (σ3 24 0) / 30 * 30) = 0 then (f_X4_lookForThieves N σ3).bind fun q11 => rec6 q11.2 (v2 + 1) else rec6 σ3 (v2 + 1)) = rec6 σ4 (v2 + 1)) ∧ f_X6_pass_241 N N ρ3 (nI m) 0 = some (nI m, ρ4) ∧ Iv np nl ng (B + 32) 16 σ4 ρ4 ∧ L4 σ3 σ4 := by
    by_cases c : σ3 24 0 - σ3 24 0 / 30 * 30 = 0
    · obtain ⟨σ4, ρ4, d1, d2, d3, d4⟩ := ph4 (N := N) (v := nI m) (by omega) c3 hN c
      exact ⟨σ4, ρ4, fun _ _ => by rw [if_pos c, d1]; rfl, d2, d3, d4⟩
    · exact ⟨σ3, ρ3, fun _ _ => if_neg c, ph4_no c3 hN c, c3, fun _ _ _ _ _ _ => rfl⟩
  obtain ⟨σ4, ρ4, d1, d2, d3, d4⟩ := h4
  have fr : ∀ f j, f ≠ 4 → f ≠ 19 → f ≠ 20 → f ≠ 27 → f ≠ 1 → f ≠ 6 → f ≠ 25 → f ≠ 9 → f ≠ 29 → σ4 f j = σ1 f j := fun f j x4 x19 x20 x27 x1 x6 x25 x9 x29 => (d4 f j x4 x19 x20 x27).trans ((c4.1 f j x1 x6 x19 x25 x9 x29).trans (b4 f j x6))
  have f17 : ∀ g, σ4 17 g = σ1 17 g := fun g => fr 17 g (by omega) (by omega) (by omega) (by omega) (by omega) (by omega) (by omega) (by omega) (by omega)
  have f28 : σ4 28 0 = σ1 28 0 := fr 28 0 (by omega) (by omega) (by omega) (by omega) (by omega) (by omega) (by omega) (by omega) (by omega)
  have f30 : σ4 30 0 = σ1 30 0 := fr 30 0 (by omega) (by omega) (by omega) (by omega) (by omega) (by omega) (by omega) (by omega) (by omega)
  have f31 : σ4 31 0 = σ1 31 0 := fr 31 0 (by omega) (by omega) (by omega) (by omega) (by omega) (by omega) (by omega) (by omega) (by omega)
  have f24 : σ4 24 0 = σ1 24 0 := fr 24 0 (by omega) (by omega) (by omega) (by omega) (by omega) (by omega) (by omega) (by omega) (by omega)
  have q17 : ∀ g, mUp σ 24 0 (σ 24 0 + 1) 17 g = σ 17 g := fun g => uF (by omega)
  refine ⟨σ4, ρ4, m, fun x1 n v2 hv => ?_, ?_, d3, by omega, f28.trans hE2, ?_, fun g hg => (f17 g).trans (hE6 g hg), fun hm => ?_, fun h0 hm => ?_, fun h0 => ?_⟩
  · rw [f_X4_letGoBy_6, if_neg hv, a1]
    simp only [bS]
    rw [b1]
    unfold f_X4_letGoBy_39
    rw [c1]
    simp only [bS]
    rw [d1]
  · rw [hp0, a2, b2, c2, d2]
  · have e1 : σ4 29 0 = σ3 29 0 := d4 29 0 (by omega) (by omega) (by omega) (by omega)
    have e2 : sI nl (qBad σ4) = sI nl (qBad σ3) := sI_eq (fun j _ => by unfold qBad; rw [d4 9 j (by omega) (by omega) (by omega) (by omega)])
    have e3 : σ2 29 0 = σ 29 0 := (b4 29 0 (by omega)).trans hE3
    have e4 : sI nl (qBad σ2) = sI nl (qBad σ) := sI_eq (fun j _ => by unfold qBad; rw [b4 9 j (by omega), hE5 j]; rfl)
    rw [e1, e2, c4.2, e3, e4]
  · obtain ⟨x, y, z⟩ := hE8 hm
    exact ⟨f30.trans x, f31.trans y, fun g => (f17 g).trans (z g)⟩
  · obtain ⟨g, x1, x2, x3, x4, x5, x6⟩ := hE9 h0 hm
    exact ⟨g, x1, f30.trans x2, (f31.trans x3).trans (f24.trans hE4).symm, x4, by rw [f17 g]; exact x5, fun q hq => (f17 q).trans (x6 q hq)⟩
  · obtain ⟨x, y⟩ := hE10 h0
    exact ⟨f30.trans x, f31.trans y⟩
theorem secs {a : Int32} {n : Nat} (hn : n < 100000) (h : 1 ≤ a ∧ a ≤ nI n) : ∃ S, 1 ≤ S ∧ S ≤ n ∧ a = nI S := by
  have e := nI_toInt (show n < 2 ^ 31 by omega)
  rw [leI, leI, t1, e] at h
  obtain ⟨j, hj, rfl⟩ := nI_of (x := a) (by rw [lI, t0]; omega)
  rw [nI_toInt hj] at h
  exact ⟨j, by omega, by omega, rfl⟩
def fgt (σ : mSt) : mSt := mUp (mUp (mUp (mUp σ 28 0 0) 29 0 0) 30 0 (-1)) 31 0 (-1)
theorem g_pass {N np nl ng B : Nat} {σ τ ρ α : mSt} {th : Int32} (h : Iv np nl ng B 16 σ ρ) (hB : B ≤ 21000000) (hN : 2500 ≤ N) (hN2 : N % 2 = 1) (a1 : Int32) : ∃ o r th9 σ9 ρ9, f_X5_pass N σ τ a1 = some (o, σ9, τ) ∧ f_X7_pass N th ρ α a1 = some (r, th9, ρ9, α) ∧ An [(exA, 1), (exS, 2)] o r th9 ∧ Iv np nl ng (B + 40000) 16 σ9 ρ9 := by
  have h2 := iv_B h (B9 := B + 40000) (by omega)
  have tm := h.tm
  by_cases c1 : 1 ≤ a1 ∧ a1 ≤ 1200
  · by_cases c2 : σ 24 0 + a1 ≤ 20000
    · have c19 : 1 ≤ a1 ∧ a1 ≤ nI 1200 := c1
      obtain ⟨S, hS1, hS, rfl⟩ := secs (by omega) c19
      have i0 := iv_31 (iv_30 (iv_29 (iv_28 h 0) 0) (-1)) (-1)
      obtain ⟨s9, t9, e1, e2, i, M, hM, hM2, hM3⟩ := lock (F := fun n s i => f_X4_letGoBy_6 N (nI S) n s i) (G := fun n (t : mSt × Int32) i => f_X7_pass_47 N (nI S) n 0 t.1 α t.2 i) (m := S) (fun k s t => Iv np nl ng (B + 32 * k) 16 s t.1 ∧ ∃ M, M ≤ 16 * k ∧ t.2 = nI M ∧ s 28 0 = nI M) (fun k s t hk hR => by
        obtain ⟨i, M, hM, hM2, hM3⟩ := hR
        obtain ⟨σ9, ρ9, m, x1, x2, x3, x4, x5, -⟩ := second (N := N) i (by omega) (by omega) hN2 (by rw [hM3, nI_toInt (by omega)]; omega)
        have hlt : ¬ nI S ≤ nI k := fun e => absurd ((nI_leI (by omega) (by omega)).mp e) (by omega)
        refine ⟨σ9, (ρ9, t.2 + nI m), fun n => (x1 (nI S) n (nI k) hlt).trans (by rw [nI_1]), fun n => ?_, iv_B x3 (by omega), M + m, by omega, by rw [hM2, nI_add], by rw [x5, hM3, nI_add]⟩
        show f_X7_pass_47 N (nI S) (n + 1) 0 t.1 α t.2 (nI k) = f_X7_pass_47 N (nI S) n 0 ρ9 α (t.2 + nI m) (nI (k + 1))
        rw [f_X7_pass_47, if_neg hlt, x2]
        simp only [bS, nI_1]) (s := fgt σ) (t := (ρ, 0)) ⟨i0, 0, by omega, rfl, rfl⟩ S (Nat.le_refl _)
      obtain ⟨n, hn⟩ : ∃ n, N = n + 1 + S := ⟨N - 1 - S, by omega⟩
      have el : f_X4_letGoBy N σ (nI S) = some ((), s9) := by
        unfold f_X4_letGoBy f_X4_forgetWhatPassed
        simp only [bS]
        have a := e1 (n + 1)
        have a : f_X4_letGoBy_6 N (nI S) (n + 1 + S) (fgt σ) 0 = f_X4_letGoBy_6 N (nI S) (n + 1) s9 (nI S) := a
        rw [← hn, f_X4_letGoBy_6, if_pos (Int32.le_refl _)] at a
        exact a
      have ep : f_X7_pass_47 N (nI S) N 0 ρ α 0 0 = some (nI M, 0, t9.1, α) := by
        have a := e2 (n + 1)
        have a : f_X7_pass_47 N (nI S) (n + 1 + S) 0 ρ α 0 0 = f_X7_pass_47 N (nI S) (n + 1) 0 t9.1 α t9.2 (nI S) := a
        rw [← hn, f_X7_pass_47, if_pos (Int32.le_refl _), hM2] at a
        exact a
      apply g_mk
      · unfold f_X5_pass
        simp only [iO c1, bS, eq_true c2, el, ↓reduceIte, hM3]
        rfl
      · unfold f_X7_pass
        simp only [iI c1, bS, one0, tm, eq_true c2, ep, ↓reduceIte]
        rfl
      · exact An.ok
      · exact iv_B i (by omega)
    · apply g_mk
      · unfold f_X5_pass
        simp only [iO c1, bS, c2, ↓reduceIte]
        rfl
      · unfold f_X7_pass
        simp only [iI c1, bS, one0, tm, c2, no0, ↓reduceIte]
        rfl
      · exact An.no 1 rfl
      · exact h2
  · apply g_mk
    · unfold f_X5_pass
      simp only [iO_o c1, bS, one0, ↓reduceIte]
      rfl
    · unfold f_X7_pass
      simp only [iI_o c1, bS, no0, ↓reduceIte]
      rfl
    · exact An.no 0 rfl
    · exact h2
