theorem g_borrow {N np nl ng B : Nat} {σ τ ρ α : mSt} {th : Int32} (h : Iv np nl ng B 16 σ ρ) (hB : B ≤ 21000000) (hN : 100 ≤ N) (a1 a2 a3 a4 : Int32) : ∃ o r th9 σ9 ρ9, f_X5_borrow N σ τ a1 a2 a3 a4 = some (o, σ9, τ) ∧ f_X7_borrow N th ρ α a1 a2 a3 a4 = some (r, th9, ρ9, α) ∧ An lISA o r th9 ∧ ∃ np9 nl9 ng9, np ≤ np9 ∧ nl ≤ nl9 ∧ ng ≤ ng9 ∧ Iv np9 nl9 ng9 (B + 40000) 16 σ9 ρ9 := by
  have hp8 := h.hp
  have hl8 := h.hl
  have hg8 := h.hg
  have h2 := iv_B h (B9 := B + 40000) (by omega)
  rcases idx a1 (show np < 1000 by omega) with ⟨p, hp, rfl⟩ | ho
  · have f1 := fun N => pAt (N := N) hp8 h.c21 hp
    have f2 := fun N => isPl (N := N) (th := 0) (α := α) (show np < 1000 by omega) h.d21 hp
    have ec := cl (show p < 1000 by omega)
    have hm := mI_t (show p < 8 by omega) (show 8 < 1000 by omega)
    have lt : (p < 8) = True := eq_true (by omega)
    have q1 := h.e1 p hp
    have rs := h.rs
    have ou := h.ou
    have tm := h.tm
    have c22 := h.c22
    have d23 := h.d23
    have x2 := x_loansOf (N := N) (σ := σ) (a := nI p) (b := 2) hN
    have x0 := x_loansOf (N := N) (σ := σ) (a := nI p) (b := 0) hN
    have y2 := y_loansOf (N := N) (α := α) (th := 0) (a := nI p) (b := 2) h hN
    have y0 := y_loansOf (N := N) (α := α) (th := 0) (a := nI p) (b := 0) h hN
    rw [← loans_1 h (Or.inr rfl)] at y2
    rw [← loans_1 h (Or.inl rfl)] at y0
    generalize sI 20 (qLoans σ (nI p) 2) = L2 at x2 y2
    generalize sI 20 (qLoans σ (nI p) 0) = L0 at x0 y0
    by_cases c1 : 1 ≤ a2 ∧ a2 ≤ 5000
    · by_cases c2 : 0 ≤ a3 ∧ a3 ≤ 100
      · by_cases c3 : 1 ≤ a4 ∧ a4 ≤ 3600
        · by_cases c4 : a2 ≤ σ 25 0
          · by_cases c5 : 0 < L2
            · skip
              apply g_mk
              · unfold f_X5_borrow f_X1_open f_X4_handOut
                simp only [bS, oL, oR, ↓reduceIte, one0, no0, uX, false_and, and_false, true_and, and_true, and_self, sn, ssn, zero1, s10, s11, Nat.reduceEqDiff, f1, lt, x2, x0, iO c1, iO c2, iO c3, c4, c5]
                try rfl
              · unfold f_X7_borrow f_X6_goBack
                simp only [bS, oL, oR, ↓reduceIte, one0, no0, uX, false_and, and_false, true_and, and_true, and_self, sn, ssn, zero1, s10, s11, Nat.reduceEqDiff, f2, ec, hm, y2, y0, q1, rs, ou, tm, iI c1, iI c2, iI c3, Int32.not_lt.mpr c4, c5]
                try rfl
              · exact An.no 2 rfl
              · exact ⟨_, _, _, Nat.le_refl _, Nat.le_refl _, Nat.le_refl _, h2⟩
            · by_cases c6 : L0 < 3
              · have c69 : ¬ (2 : Int32) < L0 := by
                  have k3 : (3 : Int32).toInt = 3 := by decide
                  rw [lI, k3] at c6
                  rw [lI, t2]
                  omega
                by_cases c7 : nl < 20
                · have c19 := c1
                  have c29 := c2
                  rw [leI, leI, t1] at c19
                  rw [leI, leI, t0] at c29
                  have k3 : (5000 : Int32).toInt = 5000 := by decide
                  have k4 : (100 : Int32).toInt = 100 := by decide
                  rw [k3] at c19
                  rw [k4] at c29
                  have bp := h.b1 p hp
                  have e1 := addI (a := σ 1 p) (b := a2) (by omega)
                  have hmn := mI_t c7 (show 20 < 1000 by omega)
                  have ecn := cl (show nl < 1000 by omega)
                  have ltn : (nl < 20) = True := eq_true c7
                  have l8 : (nI nl < 20) = True := eq_true ((nI_ltI (b := 20) (by omega) (by omega)).mpr c7)
                  have n8 : (nI nl = 20) = False := eq_false (fun e => absurd ((nI_eq (b := 20) (by omega) (by omega)).mp e) (by omega))
                  have fn := fun N => lAt (N := N) (σ := mUp σ 22 0 (nI nl + 1)) (show nl + 1 ≤ 20 by omega) (uS.trans (nI_1 nl)) (Nat.lt_succ_self nl)
                  apply g_mk
                  · unfold f_X5_borrow f_X1_open f_X4_handOut
                    simp only [bS, oL, oR, ↓reduceIte, one0, no0, uX, false_and, and_false, true_and, and_true, and_self, sn, ssn, zero1, s10, s11, Nat.reduceEqDiff, f1, lt, x2, x0, iO c1, iO c2, iO c3, c4, c5, c6, c22, l8, fn, ltn]
                    try rfl
                  · unfold f_X7_borrow f_X6_goBack
                    simp only [bS, oL, oR, ↓reduceIte, one0, no0, uX, false_and, and_false, true_and, and_true, and_self, sn, ssn, zero1, s10, s11, Nat.reduceEqDiff, f2, ec, hm, y2, y0, q1, rs, ou, tm, iI c1, iI c2, iI c3, Int32.not_lt.mpr c4, c5, c69, d23, n8, hmn, ecn]
                    try rfl
                  · exact An.ok
                  · have i1 := iv_newL (iv_25o (iv_1 h2 (v := σ 1 p + a2) hp (by omega)) (σ 25 0 - a2) (w := 100000 - σ 25 0 + a2) o2) (p := p) (v6 := a2) (v7 := a3) (v8 := σ 24 0 + a4) c7 hp (by omega) c29
                    exact ⟨_, _, _, Nat.le_refl _, Nat.le_succ _, Nat.le_refl _, iv_S (iv_R i1)⟩
                · have e8 : nl = 20 := by omega
                  have l8 : (nI nl < 20) = False := by subst e8; exact eq_false (by decide)
                  have n8 : (nI nl = 20) = True := by subst e8; exact eq_true rfl
                  apply g_mk
                  · unfold f_X5_borrow f_X1_open f_X4_handOut
                    simp only [bS, oL, oR, ↓reduceIte, one0, no0, uX, false_and, and_false, true_and, and_true, and_self, sn, ssn, zero1, s10, s11, Nat.reduceEqDiff, f1, lt, x2, x0, iO c1, iO c2, iO c3, c4, c5, c6, c22, l8]
                    try rfl
                  · unfold f_X7_borrow f_X6_goBack
                    simp only [bS, oL, oR, ↓reduceIte, one0, no0, uX, false_and, and_false, true_and, and_true, and_self, sn, ssn, zero1, s10, s11, Nat.reduceEqDiff, f2, ec, hm, y2, y0, q1, rs, ou, tm, iI c1, iI c2, iI c3, Int32.not_lt.mpr c4, c5, c69, d23, n8]
                    try rfl
                  · exact An.no 2 rfl
                  · exact ⟨_, _, _, Nat.le_refl _, Nat.le_refl _, Nat.le_refl _, h2⟩
              · have c69 : (2 : Int32) < L0 := by
                  have k3 : (3 : Int32).toInt = 3 := by decide
                  rw [lI, k3] at c6
                  rw [lI, t2]
                  omega
                apply g_mk
                · unfold f_X5_borrow f_X1_open f_X4_handOut
                  simp only [bS, oL, oR, ↓reduceIte, one0, no0, uX, false_and, and_false, true_and, and_true, and_self, sn, ssn, zero1, s10, s11, Nat.reduceEqDiff, f1, lt, x2, x0, iO c1, iO c2, iO c3, c4, c5, c6]
                  try rfl
                · unfold f_X7_borrow f_X6_goBack
                  simp only [bS, oL, oR, ↓reduceIte, one0, no0, uX, false_and, and_false, true_and, and_true, and_self, sn, ssn, zero1, s10, s11, Nat.reduceEqDiff, f2, ec, hm, y2, y0, q1, rs, ou, tm, iI c1, iI c2, iI c3, Int32.not_lt.mpr c4, c5, c69]
                  try rfl
                · exact An.no 2 rfl
                · exact ⟨_, _, _, Nat.le_refl _, Nat.le_refl _, Nat.le_refl _, h2⟩
          · skip
            apply g_mk
            · unfold f_X5_borrow f_X1_open f_X4_handOut
              simp only [bS, oL, oR, ↓reduceIte, one0, no0, uX, false_and, and_false, true_and, and_true, and_self, sn, ssn, zero1, s10, s11, Nat.reduceEqDiff, f1, lt, x2, x0, iO c1, iO c2, iO c3, c4]
              try rfl
            · unfold f_X7_borrow f_X6_goBack
              simp only [bS, oL, oR, ↓reduceIte, one0, no0, uX, false_and, and_false, true_and, and_true, and_self, sn, ssn, zero1, s10, s11, Nat.reduceEqDiff, f2, ec, hm, y2, y0, q1, rs, ou, tm, iI c1, iI c2, iI c3, Int32.not_le.mp c4]
              try rfl
            · exact An.no 2 rfl
            · exact ⟨_, _, _, Nat.le_refl _, Nat.le_refl _, Nat.le_refl _, h2⟩
        · skip
          apply g_mk
          · unfold f_X5_borrow f_X1_open f_X4_handOut
            simp only [bS, oL, oR, ↓reduceIte, one0, no0, uX, false_and, and_false, true_and, and_true, and_self, sn, ssn, zero1, s10, s11, Nat.reduceEqDiff, f1, lt, x2, x0, iO c1, iO c2, iO_o c3]
            try rfl
          · unfold f_X7_borrow f_X6_goBack
            simp only [bS, oL, oR, ↓reduceIte, one0, no0, uX, false_and, and_false, true_and, and_true, and_self, sn, ssn, zero1, s10, s11, Nat.reduceEqDiff, f2, ec, hm, y2, y0, q1, rs, ou, tm, iI c1, iI c2, iI_o c3]
            try rfl
          · exact An.no 1 rfl
          · exact ⟨_, _, _, Nat.le_refl _, Nat.le_refl _, Nat.le_refl _, h2⟩
      · skip
        apply g_mk
        · unfold f_X5_borrow f_X1_open f_X4_handOut
          simp only [bS, oL, oR, ↓reduceIte, one0, no0, uX, false_and, and_false, true_and, and_true, and_self, sn, ssn, zero1, s10, s11, Nat.reduceEqDiff, f1, lt, x2, x0, iO c1, iO_o c2]
          try rfl
        · unfold f_X7_borrow f_X6_goBack
          simp only [bS, oL, oR, ↓reduceIte, one0, no0, uX, false_and, and_false, true_and, and_true, and_self, sn, ssn, zero1, s10, s11, Nat.reduceEqDiff, f2, ec, hm, y2, y0, q1, rs, ou, tm, iI c1, iI_o c2]
          try rfl
        · exact An.no 1 rfl
        · exact ⟨_, _, _, Nat.le_refl _, Nat.le_refl _, Nat.le_refl _, h2⟩
    · skip
      apply g_mk
      · unfold f_X5_borrow f_X1_open f_X4_handOut
        simp only [bS, oL, oR, ↓reduceIte, one0, no0, uX, false_and, and_false, true_and, and_true, and_self, sn, ssn, zero1, s10, s11, Nat.reduceEqDiff, f1, lt, x2, x0, iO_o c1]
        try rfl
      · unfold f_X7_borrow f_X6_goBack
        simp only [bS, oL, oR, ↓reduceIte, one0, no0, uX, false_and, and_false, true_and, and_true, and_self, sn, ssn, zero1, s10, s11, Nat.reduceEqDiff, f2, ec, hm, y2, y0, q1, rs, ou, tm, iI_o c1]
        try rfl
      · exact An.no 1 rfl
      · exact ⟨_, _, _, Nat.le_refl _, Nat.le_refl _, Nat.le_refl _, h2⟩
  · skip
    apply g_mk
    · unfold f_X5_borrow
      simp only [bS, oL, oR, ↓reduceIte, one0, no0, uX, false_and, and_false, true_and, and_true, and_self, sn, ssn, zero1, s10, s11, Nat.reduceEqDiff, pAt_o h.c21 ho]
      try rfl
    · unfold f_X7_borrow
      simp only [bS, oL, oR, ↓reduceIte, one0, no0, uX, false_and, and_false, true_and, and_true, and_self, sn, ssn, zero1, s10, s11, Nat.reduceEqDiff, isPl_o (show np < 1000 by omega) h.d21 ho]
      try rfl
    · exact An.no 0 rfl
    · exact ⟨_, _, _, Nat.le_refl _, Nat.le_refl _, Nat.le_refl _, h2⟩
