theorem g_repay {N np nl ng B : Nat} {σ τ ρ α : mSt} {th : Int32} (h : Iv np nl ng B 16 σ ρ) (hB : B ≤ 21000000) (a1 a2 : Int32) : ∃ o r th9 σ9 ρ9, f_X5_repay N σ τ a1 a2 = some (o, σ9, τ) ∧ f_X7_repay N th ρ α a1 a2 = some (r, th9, ρ9, α) ∧ An lISA o r th9 ∧ Iv np nl ng (B + 40000) 16 σ9 ρ9 := by
  have hp8 := h.hp
  have hl8 := h.hl
  have hg8 := h.hg
  have h2 := iv_B h (B9 := B + 40000) (by omega)
  rcases idx a1 (show nl < 1000 by omega) with ⟨k, hk, rfl⟩ | ho
  · have f1 := fun N => lAt (N := N) hl8 h.c22 hk
    have f2 := fun N => isLn (N := N) (th := 0) (α := α) (show nl < 1000 by omega) h.d23 hk
    have ec := cl (show k < 1000 by omega)
    have hm := mI_t (show k < 20 by omega) (show 20 < 1000 by omega)
    have lt : (k < 20) = True := eq_true (by omega)
    have r15 := h.e15 k hk
    have r16 := h.e16 k hk
    have r17 := h.e17 k hk
    have r18 := h.e18 k hk
    have r19 := h.e19 k hk
    by_cases c1 : 1 ≤ a2 ∧ a2 ≤ 1000000
    · by_cases c2 : σ 9 k = 1
      · skip
        apply g_mk
        · unfold f_X5_repay f_X4_takeFromPocket f_X4_bringBack
          simp only [bS, oL, oR, ↓reduceIte, one0, no0, uX, false_and, and_false, true_and, and_true, and_self, sn, ssn, zero1, s10, s11, Nat.reduceEqDiff, f1, lt, iO c1, c2]
          try rfl
        · unfold f_X7_repay f_X6_goBack
          simp only [bS, oL, oR, ↓reduceIte, one0, no0, uX, false_and, and_false, true_and, and_true, and_self, sn, ssn, zero1, s10, s11, Nat.reduceEqDiff, f2, ec, hm, r15, r16, r17, r18, r19, iI c1, c2]
          try rfl
        · exact An.no 2 rfl
        · exact h2
      · obtain ⟨p, hp, ep⟩ := h.bo k hk
        have q1 := h.e1 p hp
        have bp := h.b1 p hp
        have bk := h.b6 k hk
        have ecp := cl (show p < 1000 by omega)
        have hmp := mI_t (show p < 8 by omega) (show 8 < 1000 by omega)
        have ltp : (p < 8) = True := eq_true (by omega)
        have f3 := fun N => pAt (N := N) hp8 h.c21 hp
        have c19 := c1
        rw [leI, leI, t1] at c19
        have ou := h.ou
        have rs := h.rs
        have m0 := mMin_I a2 (mMin (σ 6 k) (σ 1 p))
        rw [mMin_I (σ 6 k) (σ 1 p)] at m0
        generalize hv : mMin a2 (mMin (σ 6 k) (σ 1 p)) = v at m0
        have e1 := subI (a := σ 1 p) (b := v) (by omega)
        have e2 := subI (a := σ 6 k) (b := v) (by omega)
        have i1 := iv_25o (iv_6 (iv_1 h2 (v := σ 1 p - v) hp (by omega)) (v := σ 6 k - v) hk (by omega)) (σ 25 0 + v) (w := 100000 - σ 25 0 - v) o1
        by_cases c3 : σ 6 k - v = 0
        · skip
          apply g_mk
          · unfold f_X5_repay f_X4_takeFromPocket f_X4_bringBack
            simp only [bS, oL, oR, ↓reduceIte, one0, no0, uX, false_and, and_false, true_and, and_true, and_self, sn, ssn, zero1, s10, s11, Nat.reduceEqDiff, f1, lt, iO c1, c2, f3, ep, ltp, mMin_as, hv, c3]
            try rfl
          · unfold f_X7_repay f_X6_goBack
            simp only [bS, oL, oR, ↓reduceIte, one0, no0, uX, false_and, and_false, true_and, and_true, and_self, sn, ssn, zero1, s10, s11, Nat.reduceEqDiff, f2, ec, hm, r15, r16, r17, r18, r19, iI c1, c2, ep, ecp, hmp, q1, hv, c3, ou, rs]
            try rfl
          · exact An.ok
          · rw [c3] at i1
            exact iv_S (iv_R (iv_9 i1 (v := 1) hk (Or.inr (Or.inl rfl))))
        · skip
          apply g_mk
          · unfold f_X5_repay f_X4_takeFromPocket f_X4_bringBack
            simp only [bS, oL, oR, ↓reduceIte, one0, no0, uX, false_and, and_false, true_and, and_true, and_self, sn, ssn, zero1, s10, s11, Nat.reduceEqDiff, f1, lt, iO c1, c2, f3, ep, ltp, mMin_as, hv, c3]
            try rfl
          · unfold f_X7_repay f_X6_goBack
            simp only [bS, oL, oR, ↓reduceIte, one0, no0, uX, false_and, and_false, true_and, and_true, and_self, sn, ssn, zero1, s10, s11, Nat.reduceEqDiff, f2, ec, hm, r15, r16, r17, r18, r19, iI c1, c2, ep, ecp, hmp, q1, hv, c3, ou, rs]
            try rfl
          · exact An.ok
          · exact iv_S (iv_R i1)
    · skip
      apply g_mk
      · unfold f_X5_repay f_X4_takeFromPocket f_X4_bringBack
        simp only [bS, oL, oR, ↓reduceIte, one0, no0, uX, false_and, and_false, true_and, and_true, and_self, sn, ssn, zero1, s10, s11, Nat.reduceEqDiff, f1, lt, iO_o c1]
        try rfl
      · unfold f_X7_repay f_X6_goBack
        simp only [bS, oL, oR, ↓reduceIte, one0, no0, uX, false_and, and_false, true_and, and_true, and_self, sn, ssn, zero1, s10, s11, Nat.reduceEqDiff, f2, ec, hm, r15, r16, r17, r18, r19, iI_o c1]
        try rfl
      · exact An.no 1 rfl
      · exact h2
  · skip
    apply g_mk
    · unfold f_X5_repay
      simp only [bS, oL, oR, ↓reduceIte, one0, no0, uX, false_and, and_false, true_and, and_true, and_self, sn, ssn, zero1, s10, s11, Nat.reduceEqDiff, lAt_o h.c22 ho]
      try rfl
    · unfold f_X7_repay
      simp only [bS, oL, oR, ↓reduceIte, one0, no0, uX, false_and, and_false, true_and, and_true, and_self, sn, ssn, zero1, s10, s11, Nat.reduceEqDiff, isLn_o (show nl < 1000 by omega) h.d23 ho]
      try rfl
    · exact An.no 0 rfl
    · exact h2
theorem up5 {a b c d e : Int32} {f : Nat → Int32} : (upd (upd (upd (upd (upd f (0 : Int32).toNatClampNeg a) (1 : Int32).toNatClampNeg b) (2 : Int32).toNatClampNeg c) (3 : Int32).toNatClampNeg d) (4 : Int32).toNatClampNeg e) 0 = a ∧ (upd (upd (upd (upd (upd f (0 : Int32).toNatClampNeg a) (1 : Int32).toNatClampNeg b) (2 : Int32).toNatClampNeg c) (3 : Int32).toNatClampNeg d) (4 : Int32).toNatClampNeg e) 1 = b ∧ (upd (upd (upd (upd (upd f (0 : Int32).toNatClampNeg a) (1 : Int32).toNatClampNeg b) (2 : Int32).toNatClampNeg c) (3 : Int32).toNatClampNeg d) (4 : Int32).toNatClampNeg e) 2 = c ∧ (upd (upd (upd (upd (upd f (0 : Int32).toNatClampNeg a) (1 : Int32).toNatClampNeg b) (2 : Int32).toNatClampNeg c) (3 : Int32).toNatClampNeg d) (4 : Int32).toNatClampNeg e) 3 = d ∧ (upd (upd (upd (upd (upd f (0 : Int32).toNatClampNeg a) (1 : Int32).toNatClampNeg b) (2 : Int32).toNatClampNeg c) (3 : Int32).toNatClampNeg d) (4 : Int32).toNatClampNeg e) 4 = e := ⟨rfl, rfl, rfl, rfl, rfl⟩
/-- what a loan tells: the same on both sides -/
def loT (σ : mSt) (k w : Nat) : Int32 := if w = 0 then σ 5 k else if w = 1 then σ 6 k else if w = 2 then σ 7 k else if w = 3 then σ 8 k else σ 9 k
theorem loT_1 {N : Nat} {σ τ : mSt} {nl k j : Nat} (hl8 : nl ≤ 20) (c22 : σ 22 0 = nI nl) (hk : k < nl) (hj : j < 5) : f_X5_loan N σ τ (nI k) (nI j) = some (.inl (loT σ k j), σ, τ) := by
  have f1 := fun N => lAt (N := N) hl8 c22 hk
  have lt : (k < 20) = True := eq_true (by omega)
  unfold f_X5_loan
  simp only [f1, bS, oL, lt, ↓reduceIte]
  rw [if_neg (rg_i (n := 4) (m := 4) rfl (by omega) (by omega))]
  match j, hj with
  | 0, _ => rfl
  | 1, _ => rfl
  | 2, _ => rfl
  | 3, _ => rfl
  | 4, _ => rfl
theorem loT_2 {N : Nat} {th : Int32} {σ ρ α : mSt} {np nl ng B x k j : Nat} (h : Iv np nl ng B x σ ρ) (hk : k < nl) (hj : j < 5) : f_X7_loanTold N th ρ α (nI k) (nI j) = some (loT σ k j, th, ρ, α) := by
  have hl8 := h.hl
  unfold f_X7_loanTold
  rw [if_pos (mI_in (show k < 20 by omega) (by omega)), if_pos (mI_in hj (by omega)), cl (show k < 1000 by omega), cl (show j < 1000 by omega), h.e15 k hk, h.e16 k hk, h.e17 k hk, h.e18 k hk, h.e19 k hk]
  match j, hj with
  | 0, _ => exact congrArg (fun z => some (z, th, ρ, α)) up5.1
  | 1, _ => exact congrArg (fun z => some (z, th, ρ, α)) up5.2.1
  | 2, _ => exact congrArg (fun z => some (z, th, ρ, α)) up5.2.2.1
  | 3, _ => exact congrArg (fun z => some (z, th, ρ, α)) up5.2.2.2.1
  | 4, _ => exact congrArg (fun z => some (z, th, ρ, α)) up5.2.2.2.2
def gaT (σ : mSt) (g w : Nat) : Int32 := if w = 0 then σ 18 (2 * g) else if w = 1 then σ 18 (2 * g + 1) else if w = 2 then σ 19 (2 * g) else if w = 3 then σ 19 (2 * g + 1) else if w = 4 then σ 14 g else if w = 5 then σ 15 g else if w = 6 then σ 16 g else if w = 7 then σ 17 g else if w = 8 then σ 20 (2 * g) else if w = 9 then σ 20 (2 * g + 1) else σ 13 g
theorem gaT_1 {N : Nat} {σ τ : mSt} {ng g j : Nat} (hg8 : ng ≤ 16) (c23 : σ 23 0 = nI ng) (hg : g < ng) (hj : j < 11) : f_X5_game N σ τ (nI g) (nI j) = some (.inl (gaT σ g j), σ, τ) := by
  have f1 := fun N => gAt (N := N) hg8 c23 hg
  have lt : (g < 16) = True := eq_true (by omega)
  unfold f_X5_game
  simp only [f1, bS, oL, lt, ↓reduceIte]
  rw [if_neg (rg_i (n := 10) (m := 10) rfl (by omega) (by omega))]
  match j, hj with
  | 0, _ => rfl
  | 1, _ => rfl
  | 2, _ => rfl
  | 3, _ => rfl
  | 4, _ => rfl
  | 5, _ => rfl
  | 6, _ => rfl
  | 7, _ => rfl
  | 8, _ => rfl
  | 9, _ => rfl
  | 10, _ => rfl
theorem a2s {a : Int32} : a + 2 - 2 = a := Int32.add_sub_cancel ..
theorem a3s {g : Nat} : nI g + 3 - 2 = nI (g + 1) := by rw [show nI g + 3 = nI (g + 1) + 2 from by rw [← nI_1, Int32.add_assoc]; rfl, a2s]
theorem a8s {a : Int32} : a + 8 - 8 = a := Int32.add_sub_cancel ..
theorem a9s {g : Nat} : nI g + 9 - 8 = nI (g + 1) := by rw [show nI g + 9 = nI (g + 1) + 8 from by rw [← nI_1, Int32.add_assoc]; rfl, a8s]
theorem gaT_2 {N : Nat} {th : Int32} {σ ρ α : mSt} {np nl ng B x g j : Nat} (h : Iv np nl ng B x σ ρ) (hg : g < ng) (hj : j < 11) : f_X7_gameTold N th ρ α (nI g) (nI j) = some (gaT σ g j, th, ρ, α) := by
  have hg8 := h.hg
  have ec := cl (show g < 1000 by omega)
  have ec0 := cl (show 2 * g < 1000 by omega)
  have ec1 := cl (show 2 * g + 1 < 1000 by omega)
  have hm := mI_t (show g < 16 by omega) (show 16 < 1000 by omega)
  have hm0 := mI_t (show 2 * g < 32 by omega) (show 32 < 1000 by omega)
  have hm1 := mI_t (show 2 * g + 1 < 32 by omega) (show 32 < 1000 by omega)
  have t2g := two_nI g
  unfold f_X7_gameTold f_X7_gameTold_52
  match j, hj with
  | 0, _ =>
    rw [if_neg (show ¬ (2 : Int32) ≤ nI 0 by decide)]
    simp only [t2g, show nI 0 = (0 : Int32) from rfl, Int32.add_zero, hm0, hm1, ec0, ec1, ↓reduceIte, h.e5 (2 * g) (by omega)]
    rfl
  | 1, _ =>
    rw [if_neg (show ¬ (2 : Int32) ≤ nI 1 by decide)]
    simp only [t2g, show nI 1 = (1 : Int32) from rfl, nI_1, hm0, hm1, ec0, ec1, ↓reduceIte, h.e5 (2 * g + 1) (by omega)]
    rfl
  | 2, _ =>
    rw [if_pos (show (2 : Int32) ≤ nI 2 by decide), if_neg (show ¬ (4 : Int32) ≤ nI 2 by decide)]
    simp only [t2g, show nI 2 = (2 : Int32) from rfl, a2s, hm0, hm1, ec0, ec1, ↓reduceIte, h.e6 (2 * g) (by omega)]
    rfl
  | 3, _ =>
    rw [if_pos (show (2 : Int32) ≤ nI 3 by decide), if_neg (show ¬ (4 : Int32) ≤ nI 3 by decide)]
    simp only [t2g, show nI 3 = (3 : Int32) from rfl, a3s, hm0, hm1, ec0, ec1, ↓reduceIte, h.e6 (2 * g + 1) (by omega)]
    rfl
  | 4, _ =>
    rw [if_pos (show (2 : Int32) ≤ nI 4 by decide), if_pos (show (4 : Int32) ≤ nI 4 by decide), if_neg (show ¬ nI 4 = (8 : Int32) by decide), if_neg (show ¬ nI 4 = (9 : Int32) by decide), if_pos (show nI 4 = (4 : Int32) from rfl)]
    simp only [hm, ec, ↓reduceIte, h.e11 g hg]
    rfl
  | 5, _ =>
    rw [if_pos (show (2 : Int32) ≤ nI 5 by decide), if_pos (show (4 : Int32) ≤ nI 5 by decide), if_neg (show ¬ nI 5 = (8 : Int32) by decide), if_neg (show ¬ nI 5 = (9 : Int32) by decide), if_neg (show ¬ nI 5 = (4 : Int32) by decide), if_pos (show nI 5 = (5 : Int32) from rfl)]
    simp only [hm, ec, ↓reduceIte, h.e12 g hg]
    rfl
  | 6, _ =>
    rw [if_pos (show (2 : Int32) ≤ nI 6 by decide), if_pos (show (4 : Int32) ≤ nI 6 by decide), if_neg (show ¬ nI 6 = (8 : Int32) by decide), if_neg (show ¬ nI 6 = (9 : Int32) by decide), if_neg (show ¬ nI 6 = (4 : Int32) by decide), if_neg (show ¬ nI 6 = (5 : Int32) by decide), if_pos (show nI 6 = (6 : Int32) from rfl)]
    simp only [hm, ec, ↓reduceIte, h.e13 g hg]
    rfl
  | 7, _ =>
    rw [if_pos (show (2 : Int32) ≤ nI 7 by decide), if_pos (show (4 : Int32) ≤ nI 7 by decide), if_neg (show ¬ nI 7 = (8 : Int32) by decide), if_neg (show ¬ nI 7 = (9 : Int32) by decide), if_neg (show ¬ nI 7 = (4 : Int32) by decide), if_neg (show ¬ nI 7 = (5 : Int32) by decide), if_neg (show ¬ nI 7 = (6 : Int32) by decide), if_pos (show nI 7 = (7 : Int32) from rfl)]
    simp only [hm, ec, ↓reduceIte, h.e14 g hg]
    rfl
  | 8, _ =>
    rw [if_pos (show (2 : Int32) ≤ nI 8 by decide), if_pos (show (4 : Int32) ≤ nI 8 by decide), if_pos (show nI 8 = (8 : Int32) from rfl)]
    simp only [t2g, show nI 8 = (8 : Int32) from rfl, a8s, hm0, hm1, ec0, ec1, ↓reduceIte, h.e7 (2 * g) (by omega)]
    rfl
  | 9, _ =>
    rw [if_pos (show (2 : Int32) ≤ nI 9 by decide), if_pos (show (4 : Int32) ≤ nI 9 by decide), if_neg (show ¬ nI 9 = (8 : Int32) by decide), if_pos (show nI 9 = (9 : Int32) from rfl)]
    simp only [t2g, show nI 9 = (9 : Int32) from rfl, a9s, hm0, hm1, ec0, ec1, ↓reduceIte, h.e7 (2 * g + 1) (by omega)]
    rfl
  | 10, _ =>
    rw [if_pos (show (2 : Int32) ≤ nI 10 by decide), if_pos (show (4 : Int32) ≤ nI 10 by decide), if_neg (show ¬ nI 10 = (8 : Int32) by decide), if_neg (show ¬ nI 10 = (9 : Int32) by decide), if_neg (show ¬ nI 10 = (4 : Int32) by decide), if_neg (show ¬ nI 10 = (5 : Int32) by decide), if_neg (show ¬ nI 10 = (6 : Int32) by decide), if_neg (show ¬ nI 10 = (7 : Int32) by decide)]
    simp only [hm, ec, ↓reduceIte, h.e10 g hg]
    rfl
theorem g_loan {N np nl ng B : Nat} {σ τ ρ α : mSt} {th : Int32} (h : Iv np nl ng B 16 σ ρ) (hB : B ≤ 21000000) (a1 a2 : Int32) : ∃ o r th9 σ9 ρ9, f_X5_loan N σ τ a1 a2 = some (o, σ9, τ) ∧ f_X7_loan N th ρ α a1 a2 = some (r, th9, ρ9, α) ∧ An [(exI, 1)] o r th9 ∧ Iv np nl ng (B + 40000) 16 σ9 ρ9 := by
  have hp8 := h.hp
  have hl8 := h.hl
  have hg8 := h.hg
  have h2 := iv_B h (B9 := B + 40000) (by omega)
  rcases idx a1 (show nl < 1000 by omega) with ⟨k, hk, rfl⟩ | ho
  · by_cases c1 : 0 ≤ a2 ∧ a2 ≤ nI 4
    · obtain ⟨j, hj, rfl⟩ := rg (by omega) c1
      have c19 : 0 ≤ nI j ∧ nI j ≤ 4 := c1
      apply g_mk
      · exact loT_1 h.hl h.c22 hk (by omega)
      · unfold f_X7_loan
        simp only [bS, oL, oR, ↓reduceIte, one0, no0, uX, false_and, and_false, true_and, and_true, and_self, sn, ssn, zero1, s10, s11, Nat.reduceEqDiff, isLn (show nl < 1000 by omega) h.d23 hk, iI c19, loT_2 h hk (show j < 5 by omega)]
        try rfl
      · exact An.ok
      · exact h2
    · have c19 : ¬ (0 ≤ a2 ∧ a2 ≤ 4) := c1
      have c3 := rg_o (n := 4) (m := 4) rfl (by omega) c1
      have lt : (k < 20) = True := eq_true (by omega)
      apply g_mk
      · unfold f_X5_loan
        simp only [bS, oL, oR, ↓reduceIte, one0, no0, uX, false_and, and_false, true_and, and_true, and_self, sn, ssn, zero1, s10, s11, Nat.reduceEqDiff, lAt h.hl h.c22 hk, lt]
        rw [if_pos c3]
      · unfold f_X7_loan
        simp only [bS, oL, oR, ↓reduceIte, one0, no0, uX, false_and, and_false, true_and, and_true, and_self, sn, ssn, zero1, s10, s11, Nat.reduceEqDiff, isLn (show nl < 1000 by omega) h.d23 hk, iI_o c19]
        try rfl
      · exact An.no 0 rfl
      · exact h2
  · skip
    apply g_mk
    · unfold f_X5_loan
      simp only [bS, oL, oR, ↓reduceIte, one0, no0, uX, false_and, and_false, true_and, and_true, and_self, sn, ssn, zero1, s10, s11, Nat.reduceEqDiff, lAt_o h.c22 ho]
      try rfl
    · unfold f_X7_loan
      simp only [bS, oL, oR, ↓reduceIte, one0, no0, uX, false_and, and_false, true_and, and_true, and_self, sn, ssn, zero1, s10, s11, Nat.reduceEqDiff, isLn_o (show nl < 1000 by omega) h.d23 ho]
      try rfl
    · exact An.no 0 rfl
    · exact h2
theorem g_game {N np nl ng B : Nat} {σ τ ρ α : mSt} {th : Int32} (h : Iv np nl ng B 16 σ ρ) (hB : B ≤ 21000000) (a1 a2 : Int32) : ∃ o r th9 σ9 ρ9, f_X5_game N σ τ a1 a2 = some (o, σ9, τ) ∧ f_X7_game N th ρ α a1 a2 = some (r, th9, ρ9, α) ∧ An [(exI, 1)] o r th9 ∧ Iv np nl ng (B + 40000) 16 σ9 ρ9 := by
  have hp8 := h.hp
  have hl8 := h.hl
  have hg8 := h.hg
  have h2 := iv_B h (B9 := B + 40000) (by omega)
  rcases idx a1 (show ng < 1000 by omega) with ⟨g, hg, rfl⟩ | ho
  · by_cases c1 : 0 ≤ a2 ∧ a2 ≤ nI 10
    · obtain ⟨j, hj, rfl⟩ := rg (by omega) c1
      have c19 : 0 ≤ nI j ∧ nI j ≤ 10 := c1
      apply g_mk
      · exact gaT_1 h.hg h.c23 hg (by omega)
      · unfold f_X7_game
        simp only [bS, oL, oR, ↓reduceIte, one0, no0, uX, false_and, and_false, true_and, and_true, and_self, sn, ssn, zero1, s10, s11, Nat.reduceEqDiff, isGm (show ng < 1000 by omega) h.d22 hg, iI c19, gaT_2 h hg (show j < 11 by omega)]
        try rfl
      · exact An.ok
      · exact h2
    · have c19 : ¬ (0 ≤ a2 ∧ a2 ≤ 10) := c1
      have c3 := rg_o (n := 10) (m := 10) rfl (by omega) c1
      have lt : (g < 16) = True := eq_true (by omega)
      apply g_mk
      · unfold f_X5_game
        simp only [bS, oL, oR, ↓reduceIte, one0, no0, uX, false_and, and_false, true_and, and_true, and_self, sn, ssn, zero1, s10, s11, Nat.reduceEqDiff, gAt h.hg h.c23 hg, lt]
        rw [if_pos c3]
      · unfold f_X7_game
        simp only [bS, oL, oR, ↓reduceIte, one0, no0, uX, false_and, and_false, true_and, and_true, and_self, sn, ssn, zero1, s10, s11, Nat.reduceEqDiff, isGm (show ng < 1000 by omega) h.d22 hg, iI_o c19]
        try rfl
      · exact An.no 0 rfl
      · exact h2
  · skip
    apply g_mk
    · unfold f_X5_game
      simp only [bS, oL, oR, ↓reduceIte, one0, no0, uX, false_and, and_false, true_and, and_true, and_self, sn, ssn, zero1, s10, s11, Nat.reduceEqDiff, gAt_o h.c23 ho]
      try rfl
    · unfold f_X7_game
      simp only [bS, oL, oR, ↓reduceIte, one0, no0, uX, false_and, and_false, true_and, and_true, and_self, sn, ssn, zero1, s10, s11, Nat.reduceEqDiff, isGm_o (show ng < 1000 by omega) h.d22 ho]
      try rfl
    · exact An.no 0 rfl
    · exact h2
