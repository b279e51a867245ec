/-! ===== a second: clocks, interest ===== -/
theorem ph1 {N np nl ng B : Nat} {σ ρ : mSt} (h : Iv np nl ng B 16 σ ρ) (hB : B + 32 ≤ 21900000) (hN : 100 ≤ N) (hf : 0 ≤ (σ 28 0).toInt ∧ (σ 28 0).toInt ≤ 1000000) : ∃ σ9 ρ9 m, f_X4_runClocks N σ = some ((), σ9) ∧ f_X6_pass_14 N N ρ 0 0 = f_X6_pass_126 N N ρ9 (nI m) 0 ∧ Iv np nl ng (B + 32) 16 σ9 ρ9 ∧ Ev ng σ σ9 m := by
  have hg8 := h.hg
  obtain ⟨s9, t9, e1, e2, m, i, hE, ht⟩ := lock (F := fun n s i => f_X4_runClocks_10 N n s i) (G := fun n (t : mSt × Int32) i => f_X6_pass_14 N n t.1 t.2 i) (m := ng) (fun k s t => ∃ m, Iv np nl ng (B + 2 * k) 16 s t.1 ∧ Ev k σ s m ∧ t.2 = nI m) (fun k s t hk hR => by
    obtain ⟨m, i, hE, ht⟩ := hR
    obtain ⟨σ9, ρ9, v9, m9, a1, a2, a3, a4, a5⟩ := clk_step (N := N) (v := t.2) (by omega) i hE hf hk
    refine ⟨σ9, (ρ9, v9), a1, a2, m9, a3, a4, ?_⟩
    rw [ht, Int32.add_comm (nI m)] at a5
    have := congrArg (fun z => z - nI m) a5
    simp only [Int32.add_sub_cancel] at this
    exact this) (s := σ) (t := (ρ, 0)) ⟨0, h, Ev.zero, rfl⟩ ng (Nat.le_refl _)
  have ei := idle (F := fun n s i => f_X4_runClocks_10 N n s i) (m := ng) (M := 16) (s := s9) (fun n k h1 h2 => rc_skip i h2 (by rw [i.gu k h1 h2]; decide)) (16 - ng) (by omega)
  refine ⟨s9, t9.1, m, ?_, ?_, iv_B i (by omega), hE⟩
  · obtain ⟨n, hn⟩ : ∃ n, N = n + 1 + (16 - ng) + ng := ⟨N - 17, by omega⟩
    unfold f_X4_runClocks
    have a := e1 (n + 1 + (16 - ng))
    have b := ei (n + 1)
    rw [show ng + (16 - ng) = 16 by omega] at b
    have a : f_X4_runClocks_10 N (n + 1 + (16 - ng) + ng) σ 0 = _ := a
    rw [← hn] at a
    rw [a]
    refine b.trans ?_
    show f_X4_runClocks_10 N (n + 1) s9 16 = _
    rw [f_X4_runClocks_10, if_pos (Int32.le_refl _)]
  · obtain ⟨n, hn⟩ : ∃ n, N = n + 1 + ng := ⟨N - 1 - ng, by omega⟩
    have a := e2 (n + 1)
    have a : f_X6_pass_14 N (n + 1 + ng) ρ 0 0 = _ := a
    rw [← hn] at a
    rw [a]
    show f_X6_pass_14 N (n + 1) t9.1 t9.2 (nI ng) = _
    rw [f_X6_pass_14, i.d22, if_pos (Int32.le_refl _), ht]
theorem int_b {o r : Int32} (ho : 0 ≤ o.toInt ∧ o.toInt ≤ 1000000) (hr : 0 ≤ r.toInt ∧ r.toInt ≤ 100) : 0 ≤ (mMin 1000000 (o + o * r / 1000 + 1)).toInt ∧ (mMin 1000000 (o + o * r / 1000 + 1)).toInt ≤ 1000000 := by
  have hp1 : 0 ≤ o.toInt * r.toInt := Int.mul_nonneg ho.1 hr.1
  have hp2 : o.toInt * r.toInt ≤ 1000000 * 100 := Int.mul_le_mul ho.2 hr.2 hr.1 (by omega)
  have e1 := mulI (a := o) (b := r) (by omega)
  have k1 : (1000 : Int32).toInt = 1000 := by decide
  have k2 : (1000000 : Int32).toInt = 1000000 := by decide
  have e2 : (o * r / 1000).toInt = (o.toInt * r.toInt) / 1000 := by
    rw [Int32.toInt_div_of_ne_right _ _ (by decide), e1, k1, Int.tdiv_eq_ediv_of_nonneg hp1]
  generalize o.toInt * r.toInt = z at hp1 hp2 e2
  have e3 := addI (a := o) (b := o * r / 1000) (by omega)
  have e4 := addI (a := o + o * r / 1000) (b := 1) (by rw [t1]; omega)
  rw [t1] at e4
  rw [mMin_I, k2, e4, e3, e2]
  omega
theorem ph2_no {N np nl ng B : Nat} {σ ρ : mSt} {v : Int32} (h : Iv np nl ng B 16 σ ρ) (hN : 100 ≤ N) (c : ¬ σ 24 0 - σ 24 0 / 60 * 60 = 0) : f_X6_pass_126 N N ρ v 0 = f_X6_pass_198 N N ρ v 0 := by
  obtain ⟨n, hn⟩ : ∃ n, N = n + 1 := ⟨N - 1, by omega⟩
  have e : f_X6_pass_126 N (n + 1) ρ v 0 = f_X6_pass_198 N N ρ v 0 := by
    rw [f_X6_pass_126, h.tm]
    simp only [c, ↓reduceIte, ite_self]
  rw [← hn] at e
  exact e
theorem ph2 {N np nl ng B : Nat} {σ ρ : mSt} {v : Int32} (h : Iv np nl ng B 16 σ ρ) (hN : 100 ≤ N) (c : σ 24 0 - σ 24 0 / 60 * 60 = 0) : ∃ σ9 ρ9, f_X4_addInterest N σ = some ((), σ9) ∧ f_X6_pass_126 N N ρ v 0 = f_X6_pass_198 N N ρ9 v 0 ∧ Iv np nl ng B 16 σ9 ρ9 ∧ ∀ f j, f ≠ 6 → σ9 f j = σ f j := by
  have hl8 := h.hl
  obtain ⟨s9, t9, e1, e2, i, hF⟩ := lock (F := fun n s i => f_X4_addInterest_10 N n s i) (G := fun n (t : mSt) i => f_X6_pass_126 N n t v i) (m := nl) (fun k s t => Iv np nl ng B 16 s t ∧ ∀ f j, f ≠ 6 → s f j = σ f j) (fun k s t hk hR => by
    obtain ⟨i, hF⟩ := hR
    have hk20 : k < 20 := by omega
    have ct : s 24 0 - s 24 0 / 60 * 60 = 0 := by rw [hF 24 0 (by omega)]; exact c
    have r16 := i.e16 k hk
    have r17 := i.e17 k hk
    have r19 := i.e19 k hk
    by_cases cs : s 9 k = 0
    · refine ⟨_, mUp t 16 k (mMin 1000000 (s 6 k + s 6 k * s 7 k / 1000 + 1)), fun n => ?_, fun n => ?_, iv_6 i hk (int_b (i.b6 k hk) (i.b7 k hk)), fun f j hf => (uF hf).trans (hF f j hf)⟩
      · show f_X4_addInterest_10 N (n + 1) s (nI k) = _
        rw [f_X4_addInterest_10]
        unfold f_X1_addInterest
        simp only [leF (n := 20) (c := 20) rfl hk20 (by decide), mI_t hk20 (show 20 < 1000 by omega), cl (show k < 1000 by omega), cs, bS, ↓reduceIte, eq_true hk20, nI_1]
      · show f_X6_pass_126 N (n + 1) t v (nI k) = _
        rw [f_X6_pass_126, i.d23, i.tm]
        simp only [leF rfl hk (show nl < 1000 by omega), eq_true ct, mI_t hk20 (show 20 < 1000 by omega), cl (show k < 1000 by omega), r16, r17, r19, cs, ↓reduceIte, nI_1]
    · refine ⟨s, t, fun n => ?_, fun n => ?_, i, hF⟩
      · show f_X4_addInterest_10 N (n + 1) s (nI k) = _
        rw [f_X4_addInterest_10]
        simp only [leF (n := 20) (c := 20) rfl hk20 (by decide), mI_t hk20 (show 20 < 1000 by omega), cl (show k < 1000 by omega), cs, ↓reduceIte, nI_1]
      · show f_X6_pass_126 N (n + 1) t v (nI k) = _
        rw [f_X6_pass_126, i.d23, i.tm]
        simp only [leF rfl hk (show nl < 1000 by omega), eq_true ct, mI_t hk20 (show 20 < 1000 by omega), cl (show k < 1000 by omega), r19, cs, ↓reduceIte, nI_1]) (s := σ) (t := ρ) ⟨h, fun _ _ _ => rfl⟩ nl (Nat.le_refl _)
  have ei := idle (F := fun n s i => f_X4_addInterest_10 N n s i) (m := nl) (M := 20) (s := s9) (fun n k h1 h2 => by
    have cs : ¬ s9 9 k = 0 := by rw [i.lu k h1 h2]; decide
    show f_X4_addInterest_10 N (n + 1) s9 (nI k) = _
    rw [f_X4_addInterest_10]
    simp only [leF (n := 20) (c := 20) rfl h2 (by decide), mI_t h2 (show 20 < 1000 by omega), cl (show k < 1000 by omega), cs, ↓reduceIte, nI_1]) (20 - nl) (by omega)
  refine ⟨s9, t9, ?_, ?_, i, hF⟩
  · obtain ⟨n, hn⟩ : ∃ n, N = n + 1 + (20 - nl) + nl := ⟨N - 21, by omega⟩
    unfold f_X4_addInterest
    have a := e1 (n + 1 + (20 - nl))
    have b := ei (n + 1)
    rw [show nl + (20 - nl) = 20 by omega] at b
    have a : f_X4_addInterest_10 N (n + 1 + (20 - nl) + nl) σ 0 = _ := a
    rw [← hn] at a
    rw [a]
    refine b.trans ?_
    show f_X4_addInterest_10 N (n + 1) s9 20 = _
    rw [f_X4_addInterest_10, if_pos (Int32.le_refl _)]
  · obtain ⟨n, hn⟩ : ∃ n, N = n + 1 + nl := ⟨N - 1 - nl, by omega⟩
    have a := e2 (n + 1)
    have a : f_X6_pass_126 N (n + 1 + nl) ρ v 0 = _ := a
    rw [← hn] at a
    rw [a]
    show f_X6_pass_126 N (n + 1) t9 v (nI nl) = _
    rw [f_X6_pass_126, i.d23, if_pos (Int32.le_refl _)]
