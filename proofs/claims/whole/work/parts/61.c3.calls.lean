theorem g_put {N np nl ng B : Nat} {σ τ ρ α : mSt} {th : Int32} (h : Iv np nl ng B 16 σ ρ) (hB : B ≤ 21000000) (a1 a2 a3 : Int32) : ∃ o r th9 σ9 ρ9, f_X5_put N σ τ a1 a2 a3 = some (o, σ9, τ) ∧ f_X7_put N th ρ α a1 a2 a3 = some (r, th9, ρ9, α) ∧ An lISA o r th9 ∧ Iv np nl ng (B + 40000) 16 σ9 ρ9 := by
  have hp8 := h.hp
  have hl8 := h.hl
  have hg8 := h.hg
  have h2 := iv_B h (B9 := B + 40000) (by omega)
  rcases idx a1 (show ng < 1000 by omega) with ⟨g, hg, rfl⟩ | ho
  · skip
    have f1 := fun N => gAt (N := N) hg8 h.c23 hg
    have f2 := fun N => isGm (N := N) (th := 0) (α := α) (show ng < 1000 by omega) h.d22 hg
    have ec := cl (show g < 1000 by omega)
    have ec0 := cl (show 2 * g < 1000 by omega)
    have ec1 := cl (show 2 * g + 1 < 1000 by omega)
    have hm := mI_t (show g < 16 by omega) (show 16 < 1000 by omega)
    have hm0 := mI_t (show 2 * g < 32 by omega) (show 32 < 1000 by omega)
    have hm1 := mI_t (show 2 * g + 1 < 32 by omega) (show 32 < 1000 by omega)
    have lt : (g < 16) = True := eq_true (by omega)
    have lt0 : (2 * g < 32) = True := eq_true (by omega)
    have lt1 : (2 * g + 1 < 32) = True := eq_true (by omega)
    have t2g := two_nI g
    have r14 := h.e14 g hg
    have r11 := h.e11 g hg
    have r6a := h.e6 (2 * g) (by omega)
    have r6b := h.e6 (2 * g + 1) (by omega)
    have r5a := h.e5 (2 * g) (by omega)
    have r5b := h.e5 (2 * g + 1) (by omega)
    have r7a := h.e7 (2 * g) (by omega)
    have r7b := h.e7 (2 * g + 1) (by omega)
    have r8 := h.e8 g hg
    have r12 := h.e12 g hg
    by_cases c1 : 0 ≤ a2 ∧ a2 ≤ 1
    · by_cases c2 : 1 ≤ a3 ∧ a3 ≤ 3600
      · by_cases c3 : σ 17 g = 0
        · have b := h.b19 g hg (by omega) c3
          have c29 := c2
          rw [leI, leI, t1] at c29
          have k3 : (3600 : Int32).toInt = 3600 := by decide
          rcases s01 c1 with rfl | rfl
          · obtain ⟨p, hp, ep⟩ := h.pl (2 * g) (by omega)
            have r1 := h.e1 p hp
            have bp := h.b1 p hp
            have ecp := cl (show p < 1000 by omega)
            have hmp := mI_t (show p < 8 by omega) (show 8 < 1000 by omega)
            have ltp : (p < 8) = True := eq_true (by omega)
            have f3 := fun N => pAt (N := N) hp8 h.c21 hp
            by_cases c4 : a3 ≤ σ 1 p
            · have c49 := c4
              rw [leI] at c49
              have e1 := addI (a := σ 19 (2 * g)) (b := a3) (by omega)
              have e2 := subI (a := σ 1 p) (b := a3) (by omega)
              apply g_mk
              · unfold f_X5_put f_X0_runs f_X0_sideAt
                simp only [bS, oL, oR, ↓reduceIte, one0, no0, uX, false_and, and_false, true_and, and_true, and_self, sn, ssn, zero1, s10, s11, Nat.reduceEqDiff, f1, lt, lt0, lt1, iO c1, iO c2, c3, ep, f3, ltp, c4]
                try rfl
              · unfold f_X7_put f_X6_runs
                simp only [bS, oL, oR, ↓reduceIte, one0, no0, uX, false_and, and_false, true_and, and_true, and_self, sn, ssn, zero1, s10, s11, Nat.reduceEqDiff, f2, nI_pred, ec, ec0, ec1, hm, hm0, hm1, t2g, nI_1, Int32.add_zero, Int32.sub_zero, Int32.add_sub_cancel, r14, r11, r6a, r6b, r5a, r5b, r7a, r7b, r8, r12, iI c1, iI c2, c3, ep, ecp, hmp, r1, c4]
                try rfl
              · exact An.ok
              · have i1 := iv_19a (x9 := 16) (g := g) (v := σ 19 (2 * g) + a3) (iv_1 h2 (v := σ 1 p - a3) hp (by omega)) (fun _ _ q => q) (fun _ _ _ => by
                  show 1 ≤ (σ 19 (2 * g) + a3).toInt ∧ (σ 19 (2 * g) + a3).toInt + (σ 19 (2 * g + 1)).toInt ≤ 14400 + ((B + 40000 : Nat) : Int)
                  rw [e1]; omega)
                exact iv_S (iv_R i1)
            · skip
              apply g_mk
              · unfold f_X5_put f_X0_runs f_X0_sideAt
                simp only [bS, oL, oR, ↓reduceIte, one0, no0, uX, false_and, and_false, true_and, and_true, and_self, sn, ssn, zero1, s10, s11, Nat.reduceEqDiff, f1, lt, lt0, lt1, iO c1, iO c2, c3, ep, f3, ltp, c4]
                try rfl
              · unfold f_X7_put f_X6_runs
                simp only [bS, oL, oR, ↓reduceIte, one0, no0, uX, false_and, and_false, true_and, and_true, and_self, sn, ssn, zero1, s10, s11, Nat.reduceEqDiff, f2, nI_pred, ec, ec0, ec1, hm, hm0, hm1, t2g, nI_1, Int32.add_zero, Int32.sub_zero, Int32.add_sub_cancel, r14, r11, r6a, r6b, r5a, r5b, r7a, r7b, r8, r12, iI c1, iI c2, c3, ep, ecp, hmp, r1, c4]
                try rfl
              · exact An.no 2 rfl
              · exact h2
          · obtain ⟨p, hp, ep⟩ := h.pl (2 * g + 1) (by omega)
            have r1 := h.e1 p hp
            have bp := h.b1 p hp
            have ecp := cl (show p < 1000 by omega)
            have hmp := mI_t (show p < 8 by omega) (show 8 < 1000 by omega)
            have ltp : (p < 8) = True := eq_true (by omega)
            have f3 := fun N => pAt (N := N) hp8 h.c21 hp
            by_cases c4 : a3 ≤ σ 1 p
            · have c49 := c4
              rw [leI] at c49
              have e1 := addI (a := σ 19 (2 * g + 1)) (b := a3) (by omega)
              have e2 := subI (a := σ 1 p) (b := a3) (by omega)
              apply g_mk
              · unfold f_X5_put f_X0_runs f_X0_sideAt
                simp only [bS, oL, oR, ↓reduceIte, one0, no0, uX, false_and, and_false, true_and, and_true, and_self, sn, ssn, zero1, s10, s11, Nat.reduceEqDiff, f1, lt, lt0, lt1, iO c1, iO c2, c3, ep, f3, ltp, c4]
                try rfl
              · unfold f_X7_put f_X6_runs
                simp only [bS, oL, oR, ↓reduceIte, one0, no0, uX, false_and, and_false, true_and, and_true, and_self, sn, ssn, zero1, s10, s11, Nat.reduceEqDiff, f2, nI_pred, ec, ec0, ec1, hm, hm0, hm1, t2g, nI_1, Int32.add_zero, Int32.sub_zero, Int32.add_sub_cancel, r14, r11, r6a, r6b, r5a, r5b, r7a, r7b, r8, r12, iI c1, iI c2, c3, ep, ecp, hmp, r1, c4]
                try rfl
              · exact An.ok
              · have i1 := iv_19b (x9 := 16) (g := g) (v := σ 19 (2 * g + 1) + a3) (iv_1 h2 (v := σ 1 p - a3) hp (by omega)) (fun _ _ q => q) (fun _ _ _ => by
                  show 1 ≤ (σ 19 (2 * g + 1) + a3).toInt ∧ (σ 19 (2 * g)).toInt + (σ 19 (2 * g + 1) + a3).toInt ≤ 14400 + ((B + 40000 : Nat) : Int)
                  rw [e1]; omega)
                exact iv_S (iv_R i1)
            · skip
              apply g_mk
              · unfold f_X5_put f_X0_runs f_X0_sideAt
                simp only [bS, oL, oR, ↓reduceIte, one0, no0, uX, false_and, and_false, true_and, and_true, and_self, sn, ssn, zero1, s10, s11, Nat.reduceEqDiff, f1, lt, lt0, lt1, iO c1, iO c2, c3, ep, f3, ltp, c4]
                try rfl
              · unfold f_X7_put f_X6_runs
                simp only [bS, oL, oR, ↓reduceIte, one0, no0, uX, false_and, and_false, true_and, and_true, and_self, sn, ssn, zero1, s10, s11, Nat.reduceEqDiff, f2, nI_pred, ec, ec0, ec1, hm, hm0, hm1, t2g, nI_1, Int32.add_zero, Int32.sub_zero, Int32.add_sub_cancel, r14, r11, r6a, r6b, r5a, r5b, r7a, r7b, r8, r12, iI c1, iI c2, c3, ep, ecp, hmp, r1, c4]
                try rfl
              · exact An.no 2 rfl
              · exact h2
        · skip
          apply g_mk
          · unfold f_X5_put f_X0_runs f_X0_sideAt
            simp only [bS, oL, oR, ↓reduceIte, one0, no0, uX, false_and, and_false, true_and, and_true, and_self, sn, ssn, zero1, s10, s11, Nat.reduceEqDiff, f1, lt, lt0, lt1, iO c1, iO c2, c3]
            try rfl
          · unfold f_X7_put f_X6_runs
            simp only [bS, oL, oR, ↓reduceIte, one0, no0, uX, false_and, and_false, true_and, and_true, and_self, sn, ssn, zero1, s10, s11, Nat.reduceEqDiff, f2, nI_pred, ec, ec0, ec1, hm, hm0, hm1, t2g, nI_1, Int32.add_zero, Int32.sub_zero, Int32.add_sub_cancel, r14, r11, r6a, r6b, r5a, r5b, r7a, r7b, r8, r12, iI c1, iI c2, c3]
            try rfl
          · exact An.no 2 rfl
          · exact h2
      · skip
        apply g_mk
        · unfold f_X5_put f_X0_runs f_X0_sideAt
          simp only [bS, oL, oR, ↓reduceIte, one0, no0, uX, false_and, and_false, true_and, and_true, and_self, sn, ssn, zero1, s10, s11, Nat.reduceEqDiff, f1, lt, lt0, lt1, iO c1, iO_o c2]
          try rfl
        · unfold f_X7_put f_X6_runs
          simp only [bS, oL, oR, ↓reduceIte, one0, no0, uX, false_and, and_false, true_and, and_true, and_self, sn, ssn, zero1, s10, s11, Nat.reduceEqDiff, f2, nI_pred, ec, ec0, ec1, hm, hm0, hm1, t2g, nI_1, Int32.add_zero, Int32.sub_zero, Int32.add_sub_cancel, r14, r11, r6a, r6b, r5a, r5b, r7a, r7b, r8, r12, iI c1, iI_o c2]
          try rfl
        · exact An.no 1 rfl
        · exact h2
    · skip
      apply g_mk
      · unfold f_X5_put f_X0_runs f_X0_sideAt
        simp only [bS, oL, oR, ↓reduceIte, one0, no0, uX, false_and, and_false, true_and, and_true, and_self, sn, ssn, zero1, s10, s11, Nat.reduceEqDiff, f1, lt, lt0, lt1, iO_o c1]
        try rfl
      · unfold f_X7_put f_X6_runs
        simp only [bS, oL, oR, ↓reduceIte, one0, no0, uX, false_and, and_false, true_and, and_true, and_self, sn, ssn, zero1, s10, s11, Nat.reduceEqDiff, f2, nI_pred, ec, ec0, ec1, hm, hm0, hm1, t2g, nI_1, Int32.add_zero, Int32.sub_zero, Int32.add_sub_cancel, r14, r11, r6a, r6b, r5a, r5b, r7a, r7b, r8, r12, iI_o c1]
        try rfl
      · exact An.no 1 rfl
      · exact h2
  · skip
    apply g_mk
    · unfold f_X5_put
      simp only [bS, oL, oR, ↓reduceIte, one0, no0, uX, false_and, and_false, true_and, and_true, and_self, sn, ssn, zero1, s10, s11, Nat.reduceEqDiff, gAt_o h.c23 ho]
      try rfl
    · unfold f_X7_put
      simp only [bS, oL, oR, ↓reduceIte, one0, no0, uX, false_and, and_false, true_and, and_true, and_self, sn, ssn, zero1, s10, s11, Nat.reduceEqDiff, isGm_o (show ng < 1000 by omega) h.d22 ho]
      try rfl
    · exact An.no 0 rfl
    · exact h2
