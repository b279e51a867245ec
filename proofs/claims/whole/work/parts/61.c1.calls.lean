theorem g_buy {N np nl ng B : Nat} {σ τ ρ α : mSt} {th : Int32} (h : Iv np nl ng B 16 σ ρ) (hB : B ≤ 21000000) (a1 a2 : Int32) : ∃ o r th9 σ9 ρ9, f_X5_buy N σ τ a1 a2 = some (o, σ9, τ) ∧ f_X7_buy N th ρ α a1 a2 = some (r, th9, ρ9, α) ∧ An lISA o r th9 ∧ Iv np nl ng (B + 40000) 16 σ9 ρ9 := by
  have hp8 := h.hp
  have hl8 := h.hl
  have hg8 := h.hg
  have h2 := iv_B h (B9 := B + 40000) (by omega)
  rcases idx a1 (show np < 1000 by omega) with ⟨p, hp, rfl⟩ | ho
  · skip
    have f1 := fun N => pAt (N := N) hp8 h.c21 hp
    have f2 := fun N => isPl (N := N) (th := 0) (α := α) (show np < 1000 by omega) h.d21 hp
    have ec := cl (show p < 1000 by omega)
    have hm := mI_t (show p < 8 by omega) (show 8 < 1000 by omega)
    have lt : (p < 8) = True := eq_true (by omega)
    have eo : ρ 26 0 = 100000 - σ 25 0 := h.ou
    by_cases c1 : 1 ≤ a2 ∧ a2 ≤ 10000
    · skip
      by_cases c2 : a2 ≤ σ 25 0
      · by_cases c3 : a2 * (3 + mMax 0 (100000 - σ 25 0) / 1000) / 10 + 1 ≤ σ 0 p
        · skip
          have b := h2.b1 p hp
          have b9 := h.b1 p hp
          rw [leI, leI] at c1
          have k1 : (1 : Int32).toInt = 1 := t1
          have k2 : (10000 : Int32).toInt = 10000 := by decide
          have c19 := c1
          rw [← leI, ← leI] at c1
          have e1 := addI (a := σ 1 p) (b := a2) (by omega)
          apply g_mk
          · unfold f_X5_buy f_X4_currentPrice f_X4_secondsOut f_X4_handOut
            simp only [bS, oL, oR, ↓reduceIte, one0, no0, uX, false_and, and_false, true_and, and_true, and_self, sn, ssn, zero1, s10, s11, Nat.reduceEqDiff, f1, lt, iO c1, c2, c3]
            try rfl
          · unfold f_X7_buy f_X6_price f_X6_goBack
            simp only [bS, oL, oR, ↓reduceIte, one0, no0, uX, false_and, and_false, true_and, and_true, and_self, sn, ssn, zero1, s10, s11, Nat.reduceEqDiff, f2, ec, hm, eo, h.rs, h.e0 p hp, h.e1 p hp, h.bk, iI c1, Int32.not_lt.mpr c2, c3]
            try rfl
          · exact An.ok
          · have i1 := iv_26 (iv_0 (iv_25o (iv_1 h2 (v := σ 1 p + a2) hp (by omega)) (σ 25 0 - a2) (w := 100000 - σ 25 0 + a2) o2) p (σ 0 p - (a2 * (3 + mMax 0 (100000 - σ 25 0) / 1000) / 10 + 1))) (σ 26 0 + (a2 * (3 + mMax 0 (100000 - σ 25 0) / 1000) / 10 + 1))
            exact iv_S (iv_R i1)
        · skip
          apply g_mk
          · unfold f_X5_buy f_X4_currentPrice f_X4_secondsOut f_X4_handOut
            simp only [bS, oL, oR, ↓reduceIte, one0, no0, uX, false_and, and_false, true_and, and_true, and_self, sn, ssn, zero1, s10, s11, Nat.reduceEqDiff, f1, lt, iO c1, c2, c3]
            try rfl
          · unfold f_X7_buy f_X6_price f_X6_goBack
            simp only [bS, oL, oR, ↓reduceIte, one0, no0, uX, false_and, and_false, true_and, and_true, and_self, sn, ssn, zero1, s10, s11, Nat.reduceEqDiff, f2, ec, hm, eo, h.rs, h.e0 p hp, h.e1 p hp, h.bk, iI c1, Int32.not_lt.mpr c2, c3]
            try rfl
          · exact An.no 2 rfl
          · exact h2
      · skip
        apply g_mk
        · unfold f_X5_buy f_X4_currentPrice f_X4_secondsOut f_X4_handOut
          simp only [bS, oL, oR, ↓reduceIte, one0, no0, uX, false_and, and_false, true_and, and_true, and_self, sn, ssn, zero1, s10, s11, Nat.reduceEqDiff, f1, lt, iO c1, c2]
          try rfl
        · unfold f_X7_buy f_X6_price f_X6_goBack
          simp only [bS, oL, oR, ↓reduceIte, one0, no0, uX, false_and, and_false, true_and, and_true, and_self, sn, ssn, zero1, s10, s11, Nat.reduceEqDiff, f2, ec, hm, eo, h.rs, h.e0 p hp, h.e1 p hp, h.bk, iI c1, Int32.not_le.mp c2]
          try rfl
        · exact An.no 2 rfl
        · exact h2
    · skip
      apply g_mk
      · unfold f_X5_buy f_X4_currentPrice f_X4_secondsOut f_X4_handOut
        simp only [bS, oL, oR, ↓reduceIte, one0, no0, uX, false_and, and_false, true_and, and_true, and_self, sn, ssn, zero1, s10, s11, Nat.reduceEqDiff, f1, lt, iO_o c1]
        try rfl
      · unfold f_X7_buy f_X6_price f_X6_goBack
        simp only [bS, oL, oR, ↓reduceIte, one0, no0, uX, false_and, and_false, true_and, and_true, and_self, sn, ssn, zero1, s10, s11, Nat.reduceEqDiff, f2, ec, hm, eo, h.rs, h.e0 p hp, h.e1 p hp, h.bk, iI_o c1]
        try rfl
      · exact An.no 1 rfl
      · exact h2
  · skip
    apply g_mk
    · unfold f_X5_buy
      simp only [bS, oL, oR, ↓reduceIte, one0, no0, uX, false_and, and_false, true_and, and_true, and_self, sn, ssn, zero1, s10, s11, Nat.reduceEqDiff, pAt_o h.c21 ho]
      try rfl
    · unfold f_X7_buy
      simp only [bS, oL, oR, ↓reduceIte, one0, no0, uX, false_and, and_false, true_and, and_true, and_self, sn, ssn, zero1, s10, s11, Nat.reduceEqDiff, isPl_o (show np < 1000 by omega) h.d21 ho]
      try rfl
    · exact An.no 0 rfl
    · exact h2
theorem g_sell {N np nl ng B : Nat} {σ τ ρ α : mSt} {th : Int32} (h : Iv np nl ng B 16 σ ρ) (hB : B ≤ 21000000) (a1 a2 : Int32) : ∃ o r th9 σ9 ρ9, f_X5_sell N σ τ a1 a2 = some (o, σ9, τ) ∧ f_X7_sell N th ρ α a1 a2 = some (r, th9, ρ9, α) ∧ An lISA o r th9 ∧ Iv np nl ng (B + 40000) 16 σ9 ρ9 := by
  have hp8 := h.hp
  have hl8 := h.hl
  have hg8 := h.hg
  have h2 := iv_B h (B9 := B + 40000) (by omega)
  rcases idx a1 (show np < 1000 by omega) with ⟨p, hp, rfl⟩ | ho
  · skip
    have f1 := fun N => pAt (N := N) hp8 h.c21 hp
    have f2 := fun N => isPl (N := N) (th := 0) (α := α) (show np < 1000 by omega) h.d21 hp
    have ec := cl (show p < 1000 by omega)
    have hm := mI_t (show p < 8 by omega) (show 8 < 1000 by omega)
    have lt : (p < 8) = True := eq_true (by omega)
    have eo : ρ 26 0 = 100000 - σ 25 0 := h.ou
    by_cases c1 : 1 ≤ a2 ∧ a2 ≤ 10000
    · skip
      by_cases c2 : a2 ≤ σ 1 p
      · by_cases c3 : a2 * (3 + mMax 0 (100000 - σ 25 0) / 1000) / 20 ≤ σ 26 0
        · skip
          have b := h2.b1 p hp
          have b9 := h.b1 p hp
          have c19 := c1
          rw [leI, leI] at c19
          have k1 : (1 : Int32).toInt = 1 := t1
          have k2 : (10000 : Int32).toInt = 10000 := by decide
          have c29 := c2
          rw [leI] at c29
          have e1 := subI (a := σ 1 p) (b := a2) (by omega)
          apply g_mk
          · unfold f_X5_sell f_X4_currentPrice f_X4_secondsOut
            simp only [bS, oL, oR, ↓reduceIte, one0, no0, uX, false_and, and_false, true_and, and_true, and_self, sn, ssn, zero1, s10, s11, Nat.reduceEqDiff, f1, lt, iO c1, c2, c3]
            try rfl
          · unfold f_X7_sell f_X6_price f_X6_goBack
            simp only [bS, oL, oR, ↓reduceIte, one0, no0, uX, false_and, and_false, true_and, and_true, and_self, sn, ssn, zero1, s10, s11, Nat.reduceEqDiff, f2, ec, hm, eo, h.rs, h.e0 p hp, h.e1 p hp, h.bk, iI c1, Int32.not_lt.mpr c2, c3]
            try rfl
          · exact An.ok
          · have i1 := iv_26 (iv_0 (iv_25o (iv_1 h2 (v := σ 1 p - a2) hp (by omega)) (σ 25 0 + a2) (w := 100000 - σ 25 0 - a2) o1) p (σ 0 p + a2 * (3 + mMax 0 (100000 - σ 25 0) / 1000) / 20)) (σ 26 0 - a2 * (3 + mMax 0 (100000 - σ 25 0) / 1000) / 20)
            exact iv_S (iv_R i1)
        · skip
          apply g_mk
          · unfold f_X5_sell f_X4_currentPrice f_X4_secondsOut
            simp only [bS, oL, oR, ↓reduceIte, one0, no0, uX, false_and, and_false, true_and, and_true, and_self, sn, ssn, zero1, s10, s11, Nat.reduceEqDiff, f1, lt, iO c1, c2, c3]
            try rfl
          · unfold f_X7_sell f_X6_price f_X6_goBack
            simp only [bS, oL, oR, ↓reduceIte, one0, no0, uX, false_and, and_false, true_and, and_true, and_self, sn, ssn, zero1, s10, s11, Nat.reduceEqDiff, f2, ec, hm, eo, h.rs, h.e0 p hp, h.e1 p hp, h.bk, iI c1, Int32.not_lt.mpr c2, c3]
            try rfl
          · exact An.no 2 rfl
          · exact h2
      · skip
        apply g_mk
        · unfold f_X5_sell f_X4_currentPrice f_X4_secondsOut
          simp only [bS, oL, oR, ↓reduceIte, one0, no0, uX, false_and, and_false, true_and, and_true, and_self, sn, ssn, zero1, s10, s11, Nat.reduceEqDiff, f1, lt, iO c1, c2]
          try rfl
        · unfold f_X7_sell f_X6_price f_X6_goBack
          simp only [bS, oL, oR, ↓reduceIte, one0, no0, uX, false_and, and_false, true_and, and_true, and_self, sn, ssn, zero1, s10, s11, Nat.reduceEqDiff, f2, ec, hm, eo, h.rs, h.e0 p hp, h.e1 p hp, h.bk, iI c1, Int32.not_le.mp c2]
          try rfl
        · exact An.no 2 rfl
        · exact h2
    · skip
      apply g_mk
      · unfold f_X5_sell f_X4_currentPrice f_X4_secondsOut
        simp only [bS, oL, oR, ↓reduceIte, one0, no0, uX, false_and, and_false, true_and, and_true, and_self, sn, ssn, zero1, s10, s11, Nat.reduceEqDiff, f1, lt, iO_o c1]
        try rfl
      · unfold f_X7_sell f_X6_price f_X6_goBack
        simp only [bS, oL, oR, ↓reduceIte, one0, no0, uX, false_and, and_false, true_and, and_true, and_self, sn, ssn, zero1, s10, s11, Nat.reduceEqDiff, f2, ec, hm, eo, h.rs, h.e0 p hp, h.e1 p hp, h.bk, iI_o c1]
        try rfl
      · exact An.no 1 rfl
      · exact h2
  · skip
    apply g_mk
    · unfold f_X5_sell
      simp only [bS, oL, oR, ↓reduceIte, one0, no0, uX, false_and, and_false, true_and, and_true, and_self, sn, ssn, zero1, s10, s11, Nat.reduceEqDiff, pAt_o h.c21 ho]
      try rfl
    · unfold f_X7_sell
      simp only [bS, oL, oR, ↓reduceIte, one0, no0, uX, false_and, and_false, true_and, and_true, and_self, sn, ssn, zero1, s10, s11, Nat.reduceEqDiff, isPl_o (show np < 1000 by omega) h.d21 ho]
      try rfl
    · exact An.no 0 rfl
    · exact h2
