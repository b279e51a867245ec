/-! ===== foresee ===== -/
/-- the lowest game that ran and does not run any more -/
noncomputable def lowG (σ τ : mSt) : Nat → Int32 → Int32
  | 0, v => v
  | d + 1, v => lowG σ τ d (if σ 17 d = 0 ∧ ¬ τ 17 d = 0 then nI d else v)
theorem lowG_none {σ τ : mSt} {v : Int32} : ∀ d, (∀ g, g < d → ¬ (σ 17 g = 0 ∧ ¬ τ 17 g = 0)) → lowG σ τ d v = v := by
  intro d
  induction d with
  | zero => intro _; rfl
  | succ d ih =>
    intro h
    show lowG σ τ d (if σ 17 d = 0 ∧ ¬ τ 17 d = 0 then nI d else v) = v
    rw [if_neg (h d (by omega))]
    exact ih (fun g hg => h g (by omega))
theorem lowG_is {σ τ : mSt} {g0 : Nat} (h0 : σ 17 g0 = 0 ∧ ¬ τ 17 g0 = 0) (h1 : ∀ g, g < g0 → ¬ (σ 17 g = 0 ∧ ¬ τ 17 g = 0)) : ∀ d v, g0 < d → lowG σ τ d v = nI g0 := by
  intro d
  induction d with
  | zero => intro v h; omega
  | succ d ih =>
    intro v h
    show lowG σ τ d (if σ 17 d = 0 ∧ ¬ τ 17 d = 0 then nI d else v) = nI g0
    by_cases e : d = g0
    · subst e
      rw [if_pos h0]
      exact lowG_none d h1
    · exact ih _ (by omega)
theorem y_131 {N np nl ng B x : Nat} {σ τ ρ α : mSt} {th a1 a2 v4 v5 v6 : Int32} {rec : Int32 → mSt → mSt → Int32 → Int32 → Int32 → Int32 → Option (Int32 × Int32 × mSt × mSt)} (h : Iv np nl ng B 16 σ ρ) (h2 : Iv np nl ng x 16 τ α) : ∀ d n v3, d ≤ ng → f_X7_foresee_131 N a1 a2 rec (n + 1 + d) th ρ α v3 v4 v5 v6 (nI d - 1) = rec th ρ α (lowG σ τ d v3) v4 v5 (v6 + 1) := by
  have hg8 := h.hg
  intro d
  induction d with
  | zero =>
    intro n v3 _
    show f_X7_foresee_131 N a1 a2 rec (n + 1) th ρ α v3 v4 v5 v6 (nI 0 - 1) = _
    rw [f_X7_foresee_131, if_pos (show nI 0 - 1 < 0 by decide)]
    rfl
  | succ d ih =>
    intro n v3 hd
    show f_X7_foresee_131 N a1 a2 rec ((n + 1 + d) + 1) th ρ α v3 v4 v5 v6 (nI (d + 1) - 1) = _
    rw [nI_pred, f_X7_foresee_131, if_neg (nI_pos (by omega)), r_runs h (show d < ng by omega)]
    have em : nI d + -1 = nI d - 1 := (Int32.sub_eq_add_neg ..).symm
    have z : ¬ (1 : Int32) = 0 := by decide
    show _ = rec th ρ α (lowG σ τ d (if σ 17 d = 0 ∧ ¬ τ 17 d = 0 then nI d else v3)) v4 v5 (v6 + 1)
    by_cases c : σ 17 d = 0
    · by_cases c2 : τ 17 d = 0
      · rw [if_neg (show ¬ (σ 17 d = 0 ∧ ¬ τ 17 d = 0) from fun e => e.2 c2), ← ih n v3 (by omega)]
        simp only [bS, c, ↓reduceIte, z, r_runs h2 (show d < ng by omega), c2, em]
      · rw [if_pos (show σ 17 d = 0 ∧ ¬ τ 17 d = 0 from ⟨c, c2⟩), ← ih n (nI d) (by omega)]
        simp only [bS, c, ↓reduceIte, z, r_runs h2 (show d < ng by omega), c2, em]
    · rw [if_neg (show ¬ (σ 17 d = 0 ∧ ¬ τ 17 d = 0) from fun e => c e.1), ← ih n v3 (by omega)]
      simp only [bS, c, ↓reduceIte, em]
theorem y_bad {N np nl ng B x : Nat} {σ ρ : mSt} (h : Iv np nl ng B x σ ρ) (hN : 100 ≤ N) : f_X6_bad N ρ = some (sI nl (qBad σ), ρ) := by
  have hl8 := h.hl
  unfold f_X6_bad
  refine acc (F := fun n v i => f_X6_bad_4 N n ρ v i) (E := fun v => some (v, ρ)) (M := nl) (fun n k v hk => ?_) (fun n v => ?_) (by omega)
  · show f_X6_bad_4 N (n + 1) ρ v (nI k) = f_X6_bad_4 N n ρ (v + qBad σ k) (nI (k + 1))
    rw [f_X6_bad_4, h.d23]
    unfold qBad f_X6_bad_28
    by_cases c : σ 9 k = 2
    · simp only [cl (show k < 1000 by omega), h.e19 k hk, leF rfl hk (show nl < 1000 by omega), mI_t (show k < 20 by omega) (show 20 < 1000 by omega), c, ↓reduceIte, nI_1]
    · simp only [cl (show k < 1000 by omega), h.e19 k hk, leF rfl hk (show nl < 1000 by omega), mI_t (show k < 20 by omega) (show 20 < 1000 by omega), c, ↓reduceIte, nI_1]
  · show f_X6_bad_4 N (n + 1) ρ v (nI nl) = some (v, ρ)
    rw [f_X6_bad_4, h.d23, if_pos (Int32.le_refl _)]
/-- the run ahead, after k seconds: τ here; α, first, when and ended with the reference -/
def Fo (np nl ng B : Nat) (σ : mSt) (bd : Int32) (k : Nat) (τ : mSt) (t : mSt × Int32 × Int32 × Int32) : Prop :=
  Iv np nl ng (B + 32 * k) 16 τ t.1 ∧ τ 29 0 - sI nl (qBad τ) = 0 - bd ∧ τ 30 0 = t.2.1 ∧ τ 31 0 = t.2.2.1 ∧ ∃ M, M ≤ 16 * k ∧ t.2.2.2 = nI M ∧ τ 28 0 = nI M ∧ (M = 0 → t.2.1 = -1 ∧ ∀ g, g < ng → τ 17 g = σ 17 g) ∧ (0 < M → ¬ t.2.1 = -1)
theorem fo_step {N np nl ng B S k : Nat} {σ ρ : mSt} {bd a2 th : Int32} {τ : mSt} {t : mSt × Int32 × Int32 × Int32} (h : Iv np nl ng B 16 σ ρ) (hB : B + 32 * k + 32 ≤ 21900000) (hN : 2500 ≤ N) (hN2 : N % 2 = 1) (hS : S ≤ 2400) (hk : k < S) (hR : Fo np nl ng B σ bd k τ t) : ∃ τ9 t9, (∀ n, f_X4_letGoBy_6 N (nI S) (n + 1) τ (nI k) = f_X4_letGoBy_6 N (nI S) n τ9 (nI (k + 1))) ∧ (∀ n, f_X7_foresee_80 N (nI S) a2 (n + 1) th ρ t.1 t.2.1 t.2.2.1 t.2.2.2 (nI k) = f_X7_foresee_80 N (nI S) a2 n th ρ t9.1 t9.2.1 t9.2.2.1 t9.2.2.2 (nI (k + 1))) ∧ Fo np nl ng B σ bd (k + 1) τ9 t9 := by
  have hg8 := h.hg
  obtain ⟨i, hbd, h30, h31, M, hM, hM2, hM3, hM4, hM5⟩ := hR
  obtain ⟨τ9, α9, m, x1, x2, x3, x4, x5, x6, x7, x8, x9, x10⟩ := second (N := N) i (by omega) (by omega) hN2 (by rw [hM3, nI_toInt (by omega)]; omega)
  have hlt : ¬ nI S ≤ nI k := fun e => absurd ((nI_leI (by omega) (by omega)).mp e) (by omega)
  have ez : (nI (M + m) = 0) = (M + m = 0) := propext (nI_eq (b := 0) (by omega) (by omega))
  have tm9 : α9 20 0 = τ9 24 0 := x3.tm
  have e28 : τ9 28 0 = nI (M + m) := by rw [x5, hM3, nI_add]
  have hl : ∀ n, f_X4_letGoBy_6 N (nI S) (n + 1) τ (nI k) = f_X4_letGoBy_6 N (nI S) n τ9 (nI (k + 1)) := fun n => (x1 (nI S) n (nI k) hlt).trans (by rw [nI_1])
  have hi : Iv np nl ng (B + 32 * (k + 1)) 16 τ9 α9 := iv_B x3 (by omega)
  by_cases c0 : M + m = 0
  · have eM : M = 0 := by omega
    have em : m = 0 := by omega
    subst eM
    subst em
    obtain ⟨y1, y2, y3⟩ := x8 rfl
    obtain ⟨w1, w2⟩ := hM4 rfl
    refine ⟨τ9, (α9, t.2.1, t.2.2.1, nI 0), hl, fun n => ?_, hi, x6.trans hbd, y1.trans h30, y2.trans h31, 0, by omega, rfl, e28, fun _ => ⟨w1, fun g hg => (y3 g).trans (w2 g hg)⟩, fun h => absurd h (by omega)⟩
    show f_X7_foresee_80 N (nI S) a2 (n + 1) th ρ t.1 t.2.1 t.2.2.1 t.2.2.2 (nI k) = _
    rw [f_X7_foresee_80, if_neg hlt, x2, hM2]
    simp only [bS, nI_add, ez, c0, ↓reduceIte, nI_1]
  · by_cases cM : M = 0
    · subst cM
      have hm : 0 < m := by omega
      obtain ⟨w1, w2⟩ := hM4 rfl
      obtain ⟨g, y1, y2, y3, y4, y5, y6⟩ := x9 (hM3.trans rfl) hm
      have hlow : lowG σ τ9 ng t.2.1 = nI g := lowG_is ⟨(w2 g y1).symm.trans y4, y5⟩ (fun q hq e => e.2 ((y6 q hq).trans ((w2 q (by omega)).trans e.1))) ng _ y1
      refine ⟨τ9, (α9, nI g, τ9 24 0, nI (0 + m)), hl, fun n => ?_, hi, x6.trans hbd, y2, y3, 0 + m, by omega, rfl, e28, fun h => absurd h (by omega), fun _ e => ?_⟩
      · show f_X7_foresee_80 N (nI S) a2 (n + 1) th ρ t.1 t.2.1 t.2.2.1 t.2.2.2 (nI k) = _
        rw [f_X7_foresee_80, if_neg hlt, x2, hM2]
        simp only [bS, nI_add, ez, c0, w1, ↓reduceIte, tm9, h.d22]
        obtain ⟨n9, hn9⟩ : ∃ n9, N = n9 + 1 + ng := ⟨N - 1 - ng, by omega⟩
        have y := y_131 (N := N) (th := th) (a1 := nI S) (a2 := a2) (v4 := τ9 24 0) (v5 := nI (0 + m)) (v6 := nI k) (rec := fun th ρ α v3 v4 v5 v6 => f_X7_foresee_80 N (nI S) a2 n th ρ α v3 v4 v5 v6) h x3 ng n9 (-1) (Nat.le_refl _)
        rw [← hn9] at y
        rw [w1] at hlow
        rw [y, hlow, nI_1]
      · have k := congrArg Int32.toInt e
        have k1 : (-1 : Int32).toInt = -1 := by decide
        have k : (nI g).toInt = (-1 : Int32).toInt := k
        rw [nIt (by omega), k1] at k
        omega
    · have hM0 : 0 < M := by omega
      have hne := hM5 hM0
      obtain ⟨y1, y2⟩ := x10 (by rw [hM3, nI_toInt (by omega)]; omega)
      refine ⟨τ9, (α9, t.2.1, t.2.2.1, nI (M + m)), hl, fun n => ?_, hi, x6.trans hbd, y1.trans h30, y2.trans h31, M + m, by omega, rfl, e28, fun h => absurd h (by omega), fun _ => hne⟩
      show f_X7_foresee_80 N (nI S) a2 (n + 1) th ρ t.1 t.2.1 t.2.2.1 t.2.2.2 (nI k) = _
      rw [f_X7_foresee_80, if_neg hlt, x2, hM2]
      simp only [bS, nI_add, ez, c0, hne, ↓reduceIte, nI_1]
theorem g_foresee {N np nl ng B : Nat} {σ τ ρ α : mSt} {th : Int32} (h : Iv np nl ng B 16 σ ρ) (ht : Tau np nl ng τ) (hB : B ≤ 21000000) (hN : 2500 ≤ N) (hN2 : N % 2 = 1) (a1 a2 : Int32) : ∃ o r th9 τ9 α9, f_X5_foresee N σ τ a1 a2 = some (o, σ, τ9) ∧ f_X7_foresee N th ρ α a1 a2 = some (r, th9, ρ, α9) ∧ An [(exA, 1), (exI, 2), (exS, 3)] o r th9 ∧ Tau np nl ng τ9 := by
  have tm := h.tm
  by_cases c1 : 1 ≤ a1 ∧ a1 ≤ 2400
  · by_cases c3 : 0 ≤ a2 ∧ a2 ≤ 3
    · by_cases c2 : σ 24 0 + a1 ≤ 20000
      · have c19 : 1 ≤ a1 ∧ a1 ≤ nI 2400 := c1
        obtain ⟨S, hS1, hS, rfl⟩ := secs (by omega) c19
        have c39 : 0 ≤ a2 ∧ a2 ≤ nI 3 := c3
        obtain ⟨j, hj, rfl⟩ := rg (by omega) c39
        obtain ⟨τ0, y1, y2⟩ := x_copy (N := N) (τ := τ) h (by omega)
        have i0 := iv_31 (iv_30 (iv_29 (iv_28 (iv_copy h ht y2 (bec_A (α := α)) (bec_S (α := α))) 0) 0) (-1)) (-1)
        have hb0 : sI nl (qBad (fgt τ0)) = sI nl (qBad σ) := sI_eq (fun k hk => by
          unfold qBad
          show (if τ0 9 k = 2 then (1 : Int32) else 0) = _
          rw [y2.2.1 9 k (by omega) (by omega) hk])
        obtain ⟨s9, t9, e1, e2, hR⟩ := lock (F := fun n s i => f_X4_letGoBy_6 N (nI S) n s i) (G := fun n (t : mSt × Int32 × Int32 × Int32) i => f_X7_foresee_80 N (nI S) (nI j) n 0 ρ t.1 t.2.1 t.2.2.1 t.2.2.2 i) (m := S) (fun k s t => Fo np nl ng B σ (sI nl (qBad σ)) k s t) (fun k s t hk hR => fo_step h (by omega) hN hN2 hS hk hR) (s := fgt τ0) (t := (bec ρ α, -1, -1, 0)) ⟨i0, by rw [hb0]; rfl, rfl, rfl, 0, by omega, rfl, rfl, fun _ => ⟨rfl, fun g hg => y2.2.2.1 17 g (by omega) (by omega) hg⟩, fun h => absurd h (by omega)⟩ S (Nat.le_refl _)
        obtain ⟨i9, hbd, h30, h31, M, hM, hM2, hM3, -, -⟩ := hR
        obtain ⟨n, hn⟩ : ∃ n, N = n + 1 + S := ⟨N - 1 - S, by omega⟩
        have el : f_X4_letGoBy N τ0 (nI S) = some ((), s9) := by
          unfold f_X4_letGoBy f_X4_forgetWhatPassed
          simp only [bS]
          have a := e1 (n + 1)
          have a : f_X4_letGoBy_6 N (nI S) (n + 1 + S) (fgt τ0) 0 = f_X4_letGoBy_6 N (nI S) (n + 1) s9 (nI S) := a
          rw [← hn, f_X4_letGoBy_6, if_pos (Int32.le_refl _)] at a
          exact a
        have ep : f_X7_foresee_80 N (nI S) (nI j) N 0 ρ (bec ρ α) (-1) (-1) 0 0 = f_X7_foresee_80 N (nI S) (nI j) (n + 1) 0 ρ t9.1 t9.2.1 t9.2.2.1 t9.2.2.2 (nI S) := by
          have a := e2 (n + 1)
          have a : f_X7_foresee_80 N (nI S) (nI j) (n + 1 + S) 0 ρ (bec ρ α) (-1) (-1) 0 0 = f_X7_foresee_80 N (nI S) (nI j) (n + 1) 0 ρ t9.1 t9.2.1 t9.2.2.1 t9.2.2.2 (nI S) := a
          rw [← hn] at a
          exact a
        rw [f_X7_foresee_80, if_pos (Int32.le_refl _), y_bad i9 (by omega), y_bad h (by omega)] at ep
        have eg : s9 29 0 = sI nl (qBad s9) - sI nl (qBad σ) := by
          have := congrArg (fun z => z + sI nl (qBad s9)) hbd
          simp only [Int32.sub_add_cancel] at this
          rw [this, Int32.sub_eq_add_neg, Int32.zero_add, Int32.add_comm, ← Int32.sub_eq_add_neg]
        have hx : ∃ r, f_X5_foresee N σ τ (nI S) (nI j) = some (.inl r, σ, s9) ∧ f_X7_foresee N th ρ α (nI S) (nI j) = some (r, 0, ρ, t9.1) := by
          unfold f_X5_foresee f_X7_foresee
          simp only [iO c1, iO c3, iI c1, iI c3, one0, bS, tm, eq_true c2, ↓reduceIte, y1, el, x_bec, ep]
          match j, hj with
          | 0, _ => exact ⟨t9.2.1, by rw [← h30]; rfl, rfl⟩
          | 1, _ => exact ⟨t9.2.2.1, by rw [← h31]; rfl, rfl⟩
          | 2, _ => exact ⟨nI M, by rw [← hM3]; rfl, by rw [← hM2]; rfl⟩
          | 3, _ => exact ⟨s9 29 0, rfl, by rw [eg]; rfl⟩
          | j + 4, h => exact absurd h (by omega)
        obtain ⟨r, f1, f2⟩ := hx
        exact ⟨_, _, _, _, _, f1, f2, An.ok, Tau.of i9⟩
      · refine ⟨_, _, _, _, α, ?_, ?_, An.no (r := 0) 2 rfl, ht⟩
        · unfold f_X5_foresee
          simp only [iO c1, iO c3, bS, c2, ↓reduceIte]
        · unfold f_X7_foresee
          simp only [iI c1, iI c3, bS, one0, tm, c2, no0, ↓reduceIte]
    · refine ⟨_, _, _, _, α, ?_, ?_, An.no (r := 0) 1 rfl, ht⟩
      · unfold f_X5_foresee
        simp only [iO c1, iO_o c3, bS, one0, ↓reduceIte]
      · unfold f_X7_foresee
        simp only [iI c1, iI_o c3, bS, one0, no0, ↓reduceIte]
  · refine ⟨_, _, _, _, α, ?_, ?_, An.no (r := 0) 0 rfl, ht⟩
    · unfold f_X5_foresee
      simp only [iO_o c1, bS, one0, ↓reduceIte]
    · unfold f_X7_foresee
      simp only [iI_o c1, bS, no0, ↓reduceIte]
