theorem g_steal {N np nl ng B : Nat} {σ τ ρ α : mSt} {th : Int32} (h : Iv np nl ng B 16 σ ρ) (hB : B ≤ 21000000) (a1 a2 a3 : Int32) : ∃ o r th9 σ9 ρ9, f_X5_steal N σ τ a1 a2 a3 = some (o, σ9, τ) ∧ f_X7_steal N th ρ α a1 a2 a3 = some (r, th9, ρ9, α) ∧ An lISA o r th9 ∧ Iv np nl ng (B + 40000) 16 σ9 ρ9 := by
  have hp8 := h.hp
  have hl8 := h.hl
  have hg8 := h.hg
  have h2 := iv_B h (B9 := B + 40000) (by omega)
  rcases idx a1 (show ng < 1000 by omega) with ⟨g, hg, rfl⟩ | ho
  · skip
    have f1 := fun N => gAt (N := N) hg8 h.c23 hg
    have f2 := fun N => isGm (N := N) (th := 0) (α := α) (show ng < 1000 by omega) h.d22 hg
    have ec := cl (show g < 1000 by omega)
    have ec0 := cl (show 2 * g < 1000 by omega)
    have ec1 := cl (show 2 * g + 1 < 1000 by omega)
    have hm := mI_t (show g < 16 by omega) (show 16 < 1000 by omega)
    have hm0 := mI_t (show 2 * g < 32 by omega) (show 32 < 1000 by omega)
    have hm1 := mI_t (show 2 * g + 1 < 32 by omega) (show 32 < 1000 by omega)
    have lt : (g < 16) = True := eq_true (by omega)
    have lt0 : (2 * g < 32) = True := eq_true (by omega)
    have lt1 : (2 * g + 1 < 32) = True := eq_true (by omega)
    have t2g := two_nI g
    have r14 := h.e14 g hg
    have r11 := h.e11 g hg
    have r6a := h.e6 (2 * g) (by omega)
    have r6b := h.e6 (2 * g + 1) (by omega)
    have r5a := h.e5 (2 * g) (by omega)
    have r5b := h.e5 (2 * g + 1) (by omega)
    have r7a := h.e7 (2 * g) (by omega)
    have r7b := h.e7 (2 * g + 1) (by omega)
    have r8 := h.e8 g hg
    have r12 := h.e12 g hg
    by_cases c1 : 0 ≤ a2 ∧ a2 ≤ 1
    · by_cases c2 : 1 ≤ a3 ∧ a3 ≤ 20
      · by_cases c3 : σ 17 g = 0
        · have b := h.b19 g hg (by omega) c3
          have c29 := c2
          rw [leI, leI, t1] at c29
          have k3 : (20 : Int32).toInt = 20 := by decide
          have b20a := h.b20 (2 * g) (by omega)
          have b20b := h.b20 (2 * g + 1) (by omega)
          rcases s01 c1 with rfl | rfl
          · rcases h.tu g hg with ht | ht
            · skip
              apply g_mk
              · unfold f_X5_steal f_X0_runs f_X0_sideAt f_X3_giveTo f_X3_giveUpTo
                simp only [bS, oL, oR, ↓reduceIte, one0, no0, uX, false_and, and_false, true_and, and_true, and_self, sn, ssn, zero1, s10, s11, Nat.reduceEqDiff, f1, lt, lt0, lt1, iO c1, iO c2, c3, ht]
                try rfl
              · unfold f_X7_steal f_X6_runs
                simp only [bS, oL, oR, ↓reduceIte, one0, no0, uX, false_and, and_false, true_and, and_true, and_self, sn, ssn, zero1, s10, s11, Nat.reduceEqDiff, f2, nI_pred, ec, ec0, ec1, hm, hm0, hm1, t2g, nI_1, Int32.add_zero, Int32.sub_zero, Int32.add_sub_cancel, r14, r11, r6a, r6b, r5a, r5b, r7a, r7b, r8, r12, iI c1, iI c2, c3, ht]
                try rfl
              · exact An.no 2 rfl
              · exact h2
            · have e0 := subI (a := σ 19 (2 * g + 1)) (b := 1) (by rw [t1]; omega)
              rw [t1] at e0
              have m0 := mMin_I a3 (σ 19 (2 * g + 1) - 1)
              rw [e0] at m0
              have e1 := addI (a := σ 19 (2 * g)) (b := mMin a3 (σ 19 (2 * g + 1) - 1)) (by omega)
              have e2 := subI (a := σ 19 (2 * g + 1)) (b := mMin a3 (σ 19 (2 * g + 1) - 1)) (by omega)
              have e3 := addI (a := σ 20 (2 * g)) (b := mMin a3 (σ 19 (2 * g + 1) - 1)) (by omega)
              apply g_mk
              · unfold f_X5_steal f_X0_runs f_X0_sideAt f_X3_giveTo f_X3_giveUpTo
                simp only [bS, oL, oR, ↓reduceIte, one0, no0, uX, false_and, and_false, true_and, and_true, and_self, sn, ssn, zero1, s10, s11, Nat.reduceEqDiff, f1, lt, lt0, lt1, iO c1, iO c2, c3, ht, neA, neB]
                try rfl
              · unfold f_X7_steal f_X6_runs
                simp only [bS, oL, oR, ↓reduceIte, one0, no0, uX, false_and, and_false, true_and, and_true, and_self, sn, ssn, zero1, s10, s11, Nat.reduceEqDiff, f2, nI_pred, ec, ec0, ec1, hm, hm0, hm1, t2g, nI_1, Int32.add_zero, Int32.sub_zero, Int32.add_sub_cancel, r14, r11, r6a, r6b, r5a, r5b, r7a, r7b, r8, r12, iI c1, iI c2, c3, ht, neA, neB]
                try rfl
              · exact An.ok
              · have i0 := iv_19b (x9 := 16) (g := g) (v := (σ 19 (2 * g + 1) - mMin a3 (σ 19 (2 * g + 1) - 1))) h2 (fun _ _ q => q) (fun _ _ _ => by
                  show 1 ≤ (σ 19 (2 * g + 1) - mMin a3 (σ 19 (2 * g + 1) - 1)).toInt ∧ (σ 19 (2 * g)).toInt + (σ 19 (2 * g + 1) - mMin a3 (σ 19 (2 * g + 1) - 1)).toInt ≤ 14400 + ((B + 40000 : Nat) : Int)
                  rw [e2]; omega)
                have i1 := iv_19a (x9 := 16) (g := g) (v := (σ 19 (2 * g) + mMin a3 (σ 19 (2 * g + 1) - 1))) i0 (fun _ _ q => q) (fun _ _ _ => by
                  show 1 ≤ (σ 19 (2 * g) + mMin a3 (σ 19 (2 * g + 1) - 1)).toInt ∧ (σ 19 (2 * g) + mMin a3 (σ 19 (2 * g + 1) - 1)).toInt + (mUp σ 19 (2 * g + 1) (σ 19 (2 * g + 1) - mMin a3 (σ 19 (2 * g + 1) - 1)) 19 (2 * g + 1)).toInt ≤ 14400 + ((B + 40000 : Nat) : Int)
                  rw [uS, e1, e2]; omega)
                have i2 := iv_20 i1 (i := 2 * g) (v := σ 20 (2 * g) + mMin a3 (σ 19 (2 * g + 1) - 1)) (by omega) (by omega)
                exact iv_S (iv_R i2)
          · rcases h.tu g hg with ht | ht
            · have e0 := subI (a := σ 19 (2 * g)) (b := 1) (by rw [t1]; omega)
              rw [t1] at e0
              have m0 := mMin_I a3 (σ 19 (2 * g) - 1)
              rw [e0] at m0
              have e1 := addI (a := σ 19 (2 * g + 1)) (b := mMin a3 (σ 19 (2 * g) - 1)) (by omega)
              have e2 := subI (a := σ 19 (2 * g)) (b := mMin a3 (σ 19 (2 * g) - 1)) (by omega)
              have e3 := addI (a := σ 20 (2 * g + 1)) (b := mMin a3 (σ 19 (2 * g) - 1)) (by omega)
              apply g_mk
              · unfold f_X5_steal f_X0_runs f_X0_sideAt f_X3_giveTo f_X3_giveUpTo
                simp only [bS, oL, oR, ↓reduceIte, one0, no0, uX, false_and, and_false, true_and, and_true, and_self, sn, ssn, zero1, s10, s11, Nat.reduceEqDiff, f1, lt, lt0, lt1, iO c1, iO c2, c3, ht, neA, neB]
                try rfl
              · unfold f_X7_steal f_X6_runs
                simp only [bS, oL, oR, ↓reduceIte, one0, no0, uX, false_and, and_false, true_and, and_true, and_self, sn, ssn, zero1, s10, s11, Nat.reduceEqDiff, f2, nI_pred, ec, ec0, ec1, hm, hm0, hm1, t2g, nI_1, Int32.add_zero, Int32.sub_zero, Int32.add_sub_cancel, r14, r11, r6a, r6b, r5a, r5b, r7a, r7b, r8, r12, iI c1, iI c2, c3, ht, neA, neB]
                try rfl
              · exact An.ok
              · have i0 := iv_19a (x9 := 16) (g := g) (v := (σ 19 (2 * g) - mMin a3 (σ 19 (2 * g) - 1))) h2 (fun _ _ q => q) (fun _ _ _ => by
                  show 1 ≤ (σ 19 (2 * g) - mMin a3 (σ 19 (2 * g) - 1)).toInt ∧ (σ 19 (2 * g) - mMin a3 (σ 19 (2 * g) - 1)).toInt + (σ 19 (2 * g + 1)).toInt ≤ 14400 + ((B + 40000 : Nat) : Int)
                  rw [e2]; omega)
                have i1 := iv_19b (x9 := 16) (g := g) (v := (σ 19 (2 * g + 1) + mMin a3 (σ 19 (2 * g) - 1))) i0 (fun _ _ q => q) (fun _ _ _ => by
                  show 1 ≤ (σ 19 (2 * g + 1) + mMin a3 (σ 19 (2 * g) - 1)).toInt ∧ (mUp σ 19 (2 * g) (σ 19 (2 * g) - mMin a3 (σ 19 (2 * g) - 1)) 19 (2 * g)).toInt + (σ 19 (2 * g + 1) + mMin a3 (σ 19 (2 * g) - 1)).toInt ≤ 14400 + ((B + 40000 : Nat) : Int)
                  rw [uS, e1, e2]; omega)
                have i2 := iv_20 i1 (i := 2 * g + 1) (v := σ 20 (2 * g + 1) + mMin a3 (σ 19 (2 * g) - 1)) (by omega) (by omega)
                exact iv_S (iv_R i2)
            · skip
              apply g_mk
              · unfold f_X5_steal f_X0_runs f_X0_sideAt f_X3_giveTo f_X3_giveUpTo
                simp only [bS, oL, oR, ↓reduceIte, one0, no0, uX, false_and, and_false, true_and, and_true, and_self, sn, ssn, zero1, s10, s11, Nat.reduceEqDiff, f1, lt, lt0, lt1, iO c1, iO c2, c3, ht]
                try rfl
              · unfold f_X7_steal f_X6_runs
                simp only [bS, oL, oR, ↓reduceIte, one0, no0, uX, false_and, and_false, true_and, and_true, and_self, sn, ssn, zero1, s10, s11, Nat.reduceEqDiff, f2, nI_pred, ec, ec0, ec1, hm, hm0, hm1, t2g, nI_1, Int32.add_zero, Int32.sub_zero, Int32.add_sub_cancel, r14, r11, r6a, r6b, r5a, r5b, r7a, r7b, r8, r12, iI c1, iI c2, c3, ht]
                try rfl
              · exact An.no 2 rfl
              · exact h2
        · skip
          apply g_mk
          · unfold f_X5_steal f_X0_runs f_X0_sideAt f_X3_giveTo f_X3_giveUpTo
            simp only [bS, oL, oR, ↓reduceIte, one0, no0, uX, false_and, and_false, true_and, and_true, and_self, sn, ssn, zero1, s10, s11, Nat.reduceEqDiff, f1, lt, lt0, lt1, iO c1, iO c2, c3]
            try rfl
          · unfold f_X7_steal f_X6_runs
            simp only [bS, oL, oR, ↓reduceIte, one0, no0, uX, false_and, and_false, true_and, and_true, and_self, sn, ssn, zero1, s10, s11, Nat.reduceEqDiff, f2, nI_pred, ec, ec0, ec1, hm, hm0, hm1, t2g, nI_1, Int32.add_zero, Int32.sub_zero, Int32.add_sub_cancel, r14, r11, r6a, r6b, r5a, r5b, r7a, r7b, r8, r12, iI c1, iI c2, c3]
            try rfl
          · exact An.no 2 rfl
          · exact h2
      · skip
        apply g_mk
        · unfold f_X5_steal f_X0_runs f_X0_sideAt f_X3_giveTo f_X3_giveUpTo
          simp only [bS, oL, oR, ↓reduceIte, one0, no0, uX, false_and, and_false, true_and, and_true, and_self, sn, ssn, zero1, s10, s11, Nat.reduceEqDiff, f1, lt, lt0, lt1, iO c1, iO_o c2]
          try rfl
        · unfold f_X7_steal f_X6_runs
          simp only [bS, oL, oR, ↓reduceIte, one0, no0, uX, false_and, and_false, true_and, and_true, and_self, sn, ssn, zero1, s10, s11, Nat.reduceEqDiff, f2, nI_pred, ec, ec0, ec1, hm, hm0, hm1, t2g, nI_1, Int32.add_zero, Int32.sub_zero, Int32.add_sub_cancel, r14, r11, r6a, r6b, r5a, r5b, r7a, r7b, r8, r12, iI c1, iI_o c2]
          try rfl
        · exact An.no 1 rfl
        · exact h2
    · skip
      apply g_mk
      · unfold f_X5_steal f_X0_runs f_X0_sideAt f_X3_giveTo f_X3_giveUpTo
        simp only [bS, oL, oR, ↓reduceIte, one0, no0, uX, false_and, and_false, true_and, and_true, and_self, sn, ssn, zero1, s10, s11, Nat.reduceEqDiff, f1, lt, lt0, lt1, iO_o c1]
        try rfl
      · unfold f_X7_steal f_X6_runs
        simp only [bS, oL, oR, ↓reduceIte, one0, no0, uX, false_and, and_false, true_and, and_true, and_self, sn, ssn, zero1, s10, s11, Nat.reduceEqDiff, f2, nI_pred, ec, ec0, ec1, hm, hm0, hm1, t2g, nI_1, Int32.add_zero, Int32.sub_zero, Int32.add_sub_cancel, r14, r11, r6a, r6b, r5a, r5b, r7a, r7b, r8, r12, iI_o c1]
        try rfl
      · exact An.no 1 rfl
      · exact h2
  · skip
    apply g_mk
    · unfold f_X5_steal
      simp only [bS, oL, oR, ↓reduceIte, one0, no0, uX, false_and, and_false, true_and, and_true, and_self, sn, ssn, zero1, s10, s11, Nat.reduceEqDiff, gAt_o h.c23 ho]
      try rfl
    · unfold f_X7_steal
      simp only [bS, oL, oR, ↓reduceIte, one0, no0, uX, false_and, and_false, true_and, and_true, and_self, sn, ssn, zero1, s10, s11, Nat.reduceEqDiff, isGm_o (show ng < 1000 by omega) h.d22 ho]
      try rfl
    · exact An.no 0 rfl
    · exact h2
