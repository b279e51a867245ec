theorem g_addPlayer {N np nl ng B : Nat} {σ τ ρ α : mSt} {th : Int32} (h : Iv np nl ng B 16 σ ρ) (hB : B ≤ 21000000) (a1 : Int32) : ∃ o r th9 σ9 ρ9, f_X5_addPlayer N σ τ a1 = some (o, σ9, τ) ∧ f_X7_addPlayer N th ρ α a1 = some (r, th9, ρ9, α) ∧ An [(exA, 1), (exS, 2)] o r th9 ∧ ∃ np9 nl9 ng9, np ≤ np9 ∧ nl ≤ nl9 ∧ ng ≤ ng9 ∧ Iv np9 nl9 ng9 (B + 40000) 16 σ9 ρ9 := by
  have hp8 := h.hp
  have hl8 := h.hl
  have hg8 := h.hg
  have h2 := iv_B h (B9 := B + 40000) (by omega)
  by_cases c1 : 0 ≤ a1 ∧ a1 ≤ 1000000
  · have ec := cl (show np < 1000 by omega)
    have c21 := h.c21
    have d21 := h.d21
    by_cases c2 : np < 8
    · have hm := mI_t c2 (show 8 < 1000 by omega)
      have l8 : (nI np < 8) = True := eq_true ((nI_ltI (b := 8) (by omega) (by omega)).mpr c2)
      have n8 : (nI np = 8) = False := eq_false (fun e => absurd ((nI_eq (b := 8) (by omega) (by omega)).mp e) (by omega))
      have fn := fun N => pAt (N := N) (σ := mUp σ 21 0 (nI np + 1)) (show np + 1 ≤ 8 by omega) (uS.trans (nI_1 np)) (Nat.lt_succ_self np)
      have lt : (np < 8) = True := eq_true c2
      apply g_mk
      · unfold f_X5_addPlayer
        simp only [bS, oL, oR, ↓reduceIte, one0, no0, uX, false_and, and_false, true_and, and_true, and_self, sn, ssn, zero1, s10, s11, Nat.reduceEqDiff, iO c1, c21, l8, fn, lt]
        try rfl
      · unfold f_X7_addPlayer
        simp only [bS, oL, oR, ↓reduceIte, one0, no0, uX, false_and, and_false, true_and, and_true, and_self, sn, ssn, zero1, s10, s11, Nat.reduceEqDiff, iI c1, d21, n8, hm, ec, Int32.add_sub_cancel]
        try rfl
      · exact An.ok
      · exact ⟨_, _, _, Nat.le_succ _, Nat.le_refl _, Nat.le_refl _, iv_S (iv_newP h2 c2)⟩
    · have e8 : np = 8 := by omega
      have l8 : (nI np < 8) = False := by subst e8; exact eq_false (by decide)
      have n8 : (nI np = 8) = True := by subst e8; exact eq_true rfl
      apply g_mk
      · unfold f_X5_addPlayer
        simp only [bS, oL, oR, ↓reduceIte, one0, no0, uX, false_and, and_false, true_and, and_true, and_self, sn, ssn, zero1, s10, s11, Nat.reduceEqDiff, iO c1, c21, l8]
        try rfl
      · unfold f_X7_addPlayer
        simp only [bS, oL, oR, ↓reduceIte, one0, no0, uX, false_and, and_false, true_and, and_true, and_self, sn, ssn, zero1, s10, s11, Nat.reduceEqDiff, iI c1, d21, n8]
        try rfl
      · exact An.no 1 rfl
      · exact ⟨_, _, _, Nat.le_refl _, Nat.le_refl _, Nat.le_refl _, h2⟩
  · skip
    apply g_mk
    · unfold f_X5_addPlayer
      simp only [bS, oL, oR, ↓reduceIte, one0, no0, uX, false_and, and_false, true_and, and_true, and_self, sn, ssn, zero1, s10, s11, Nat.reduceEqDiff, iO_o c1]
      try rfl
    · unfold f_X7_addPlayer
      simp only [bS, oL, oR, ↓reduceIte, one0, no0, uX, false_and, and_false, true_and, and_true, and_self, sn, ssn, zero1, s10, s11, Nat.reduceEqDiff, iI_o c1]
      try rfl
    · exact An.no 0 rfl
    · exact ⟨_, _, _, Nat.le_refl _, Nat.le_refl _, Nat.le_refl _, h2⟩
theorem g_begin {N np nl ng B : Nat} {σ τ ρ α : mSt} {th : Int32} (h : Iv np nl ng B 16 σ ρ) (hB : B ≤ 21000000) (a1 a2 a3 a4 a5 a6 : Int32) : ∃ o r th9 σ9 ρ9, f_X5_begin N σ τ a1 a2 a3 a4 a5 a6 = some (o, σ9, τ) ∧ f_X7_begin N th ρ α a1 a2 a3 a4 a5 a6 = some (r, th9, ρ9, α) ∧ An lISA o r th9 ∧ ∃ np9 nl9 ng9, np ≤ np9 ∧ nl ≤ nl9 ∧ ng ≤ ng9 ∧ Iv np9 nl9 ng9 (B + 40000) 16 σ9 ρ9 := by
  have hp8 := h.hp
  have hl8 := h.hl
  have hg8 := h.hg
  have h2 := iv_B h (B9 := B + 40000) (by omega)
  rcases idx a1 (show np < 1000 by omega) with ⟨p, hp, rfl⟩ | ho
  · have f1 := fun N => pAt (N := N) hp8 h.c21 hp
    have f2 := fun N => isPl (N := N) (th := 0) (α := α) (show np < 1000 by omega) h.d21 hp
    have ec := cl (show p < 1000 by omega)
    have hm := mI_t (show p < 8 by omega) (show 8 < 1000 by omega)
    have lt : (p < 8) = True := eq_true (by omega)
    rcases idx a2 (show np < 1000 by omega) with ⟨p9, hp9, rfl⟩ | ho
    · have f19 := fun N => pAt (N := N) hp8 h.c21 hp9
      have f29 := fun N => isPl (N := N) (th := 0) (α := α) (show np < 1000 by omega) h.d21 hp9
      have ec9 := cl (show p9 < 1000 by omega)
      have hm9 := mI_t (show p9 < 8 by omega) (show 8 < 1000 by omega)
      have lt9 : (p9 < 8) = True := eq_true (by omega)
      have q0 := h.e0 p hp
      have q9 := h.e0 p9 hp9
      have c23 := h.c23
      have d22 := h.d22
      have ec3 := cl (show ng < 1000 by omega)
      have epp : (nI p = nI p9) = (p = p9) := propext (nI_eq (by omega) (by omega))
      by_cases c0 : p = p9
      · skip
        apply g_mk
        · unfold f_X5_begin f_X0_sitDown f_X0_start f_X3_sit
          simp only [bS, oL, oR, ↓reduceIte, one0, no0, uX, false_and, and_false, true_and, and_true, and_self, sn, ssn, zero1, s10, s11, Nat.reduceEqDiff, f1, f19, lt, lt9, epp, c0]
          try rfl
        · unfold f_X7_begin
          simp only [bS, oL, oR, ↓reduceIte, one0, no0, uX, false_and, and_false, true_and, and_true, and_self, sn, ssn, zero1, s10, s11, Nat.reduceEqDiff, f2, f29, ec, ec9, hm, hm9, epp, q0, q9, c0]
          try rfl
        · exact An.no 1 rfl
        · exact ⟨_, _, _, Nat.le_refl _, Nat.le_refl _, Nat.le_refl _, h2⟩
      · by_cases c1 : 1 ≤ a3 ∧ a3 ≤ 7200
        · by_cases c2 : 0 ≤ a4 ∧ a4 ≤ 30
          · by_cases c3 : 0 ≤ a5 ∧ a5 ≤ 30
            · by_cases c4 : 0 ≤ a6 ∧ a6 ≤ 10000
              · by_cases c5 : σ 0 p < a6
                · skip
                  apply g_mk
                  · unfold f_X5_begin f_X0_sitDown f_X0_start f_X3_sit
                    simp only [bS, oL, oR, ↓reduceIte, one0, no0, uX, false_and, and_false, true_and, and_true, and_self, sn, ssn, zero1, s10, s11, Nat.reduceEqDiff, f1, f19, lt, lt9, epp, c0, iO c1, iO c2, iO c3, iO c4, c5]
                    try rfl
                  · unfold f_X7_begin
                    simp only [bS, oL, oR, ↓reduceIte, one0, no0, uX, false_and, and_false, true_and, and_true, and_self, sn, ssn, zero1, s10, s11, Nat.reduceEqDiff, f2, f29, ec, ec9, hm, hm9, epp, q0, q9, c0, iI c1, iI c2, iI c3, iI c4, c5]
                    try rfl
                  · exact An.no 2 rfl
                  · exact ⟨_, _, _, Nat.le_refl _, Nat.le_refl _, Nat.le_refl _, h2⟩
                · by_cases c6 : a6 ≤ σ 0 p9
                  · by_cases c7 : ng < 16
                    · have c19 := c1
                      have c29 := c2
                      have c39 := c3
                      rw [leI, leI, t1] at c19
                      rw [leI, leI, t0] at c29 c39
                      have k3 : (7200 : Int32).toInt = 7200 := by decide
                      have k4 : (30 : Int32).toInt = 30 := by decide
                      rw [k3] at c19
                      rw [k4] at c29 c39
                      have hm3 := mI_t c7 (show 16 < 1000 by omega)
                      have hm4 := mI_t (show 2 * ng < 32 by omega) (show 32 < 1000 by omega)
                      have hm5 := mI_t (show 2 * ng + 1 < 32 by omega) (show 32 < 1000 by omega)
                      have ec4 := cl (show 2 * ng < 1000 by omega)
                      have ec5 := cl (show 2 * ng + 1 < 1000 by omega)
                      have t2g := two_nI ng
                      have ltg : (ng < 16) = True := eq_true c7
                      have lg0 : (2 * ng < 32) = True := eq_true (by omega)
                      have lg1 : (2 * ng + 1 < 32) = True := eq_true (by omega)
                      have l8 : (nI ng < 16) = True := eq_true ((nI_ltI (b := 16) (by omega) (by omega)).mpr c7)
                      have n8 : (nI ng = 16) = False := eq_false (fun e => absurd ((nI_eq (b := 16) (by omega) (by omega)).mp e) (by omega))
                      have npp : (p9 = p) = False := eq_false (fun e => c0 e.symm)
                      have fn := fun N => gAt (N := N) (σ := mUp σ 23 0 (nI ng + 1)) (show ng + 1 ≤ 16 by omega) (uS.trans (nI_1 ng)) (Nat.lt_succ_self ng)
                      apply g_mk
                      · unfold f_X5_begin f_X0_sitDown f_X0_start f_X3_sit
                        simp only [bS, oL, oR, ↓reduceIte, one0, no0, uX, false_and, and_false, true_and, and_true, and_self, sn, ssn, zero1, s10, s11, Nat.reduceEqDiff, f1, f19, lt, lt9, epp, c0, iO c1, iO c2, iO c3, iO c4, c5, c6, c23, l8, fn, ltg, lg0, lg1, npp]
                        try rfl
                      · unfold f_X7_begin
                        simp only [bS, oL, oR, ↓reduceIte, one0, no0, uX, false_and, and_false, true_and, and_true, and_self, sn, ssn, zero1, s10, s11, Nat.reduceEqDiff, f2, f29, ec, ec9, hm, hm9, epp, q0, q9, c0, iI c1, iI c2, iI c3, iI c4, c5, Int32.not_lt.mpr c6, d22, n8, hm3, hm4, hm5, ec3, ec4, ec5, t2g, nI_1 (2 * ng), npp]
                        try rfl
                      · exact An.ok
                      · have i1 := iv_newG (iv_0 (iv_0 h2 p (σ 0 p - a6)) p9 (σ 0 p9 - a6)) (s := a3) (inc := a4) (del := a5) (stk := a6) c7 hp hp9 c0 c29 c39 c19
                        exact ⟨_, _, _, Nat.le_refl _, Nat.le_refl _, Nat.le_succ _, iv_S (iv_R i1)⟩
                    · have e8 : ng = 16 := by omega
                      have l8 : (nI ng < 16) = False := by subst e8; exact eq_false (by decide)
                      have n8 : (nI ng = 16) = True := by subst e8; exact eq_true rfl
                      apply g_mk
                      · unfold f_X5_begin f_X0_sitDown f_X0_start f_X3_sit
                        simp only [bS, oL, oR, ↓reduceIte, one0, no0, uX, false_and, and_false, true_and, and_true, and_self, sn, ssn, zero1, s10, s11, Nat.reduceEqDiff, f1, f19, lt, lt9, epp, c0, iO c1, iO c2, iO c3, iO c4, c5, c6, c23, l8]
                        try rfl
                      · unfold f_X7_begin
                        simp only [bS, oL, oR, ↓reduceIte, one0, no0, uX, false_and, and_false, true_and, and_true, and_self, sn, ssn, zero1, s10, s11, Nat.reduceEqDiff, f2, f29, ec, ec9, hm, hm9, epp, q0, q9, c0, iI c1, iI c2, iI c3, iI c4, c5, Int32.not_lt.mpr c6, d22, n8]
                        try rfl
                      · exact An.no 2 rfl
                      · exact ⟨_, _, _, Nat.le_refl _, Nat.le_refl _, Nat.le_refl _, h2⟩
                  · skip
                    apply g_mk
                    · unfold f_X5_begin f_X0_sitDown f_X0_start f_X3_sit
                      simp only [bS, oL, oR, ↓reduceIte, one0, no0, uX, false_and, and_false, true_and, and_true, and_self, sn, ssn, zero1, s10, s11, Nat.reduceEqDiff, f1, f19, lt, lt9, epp, c0, iO c1, iO c2, iO c3, iO c4, c5, c6]
                      try rfl
                    · unfold f_X7_begin
                      simp only [bS, oL, oR, ↓reduceIte, one0, no0, uX, false_and, and_false, true_and, and_true, and_self, sn, ssn, zero1, s10, s11, Nat.reduceEqDiff, f2, f29, ec, ec9, hm, hm9, epp, q0, q9, c0, iI c1, iI c2, iI c3, iI c4, c5, Int32.not_le.mp c6]
                      try rfl
                    · exact An.no 2 rfl
                    · exact ⟨_, _, _, Nat.le_refl _, Nat.le_refl _, Nat.le_refl _, h2⟩
              · skip
                apply g_mk
                · unfold f_X5_begin f_X0_sitDown f_X0_start f_X3_sit
                  simp only [bS, oL, oR, ↓reduceIte, one0, no0, uX, false_and, and_false, true_and, and_true, and_self, sn, ssn, zero1, s10, s11, Nat.reduceEqDiff, f1, f19, lt, lt9, epp, c0, iO c1, iO c2, iO c3, iO_o c4]
                  try rfl
                · unfold f_X7_begin
                  simp only [bS, oL, oR, ↓reduceIte, one0, no0, uX, false_and, and_false, true_and, and_true, and_self, sn, ssn, zero1, s10, s11, Nat.reduceEqDiff, f2, f29, ec, ec9, hm, hm9, epp, q0, q9, c0, iI c1, iI c2, iI c3, iI_o c4]
                  try rfl
                · exact An.no 1 rfl
                · exact ⟨_, _, _, Nat.le_refl _, Nat.le_refl _, Nat.le_refl _, h2⟩
            · skip
              apply g_mk
              · unfold f_X5_begin f_X0_sitDown f_X0_start f_X3_sit
                simp only [bS, oL, oR, ↓reduceIte, one0, no0, uX, false_and, and_false, true_and, and_true, and_self, sn, ssn, zero1, s10, s11, Nat.reduceEqDiff, f1, f19, lt, lt9, epp, c0, iO c1, iO c2, iO_o c3]
                try rfl
              · unfold f_X7_begin
                simp only [bS, oL, oR, ↓reduceIte, one0, no0, uX, false_and, and_false, true_and, and_true, and_self, sn, ssn, zero1, s10, s11, Nat.reduceEqDiff, f2, f29, ec, ec9, hm, hm9, epp, q0, q9, c0, iI c1, iI c2, iI_o c3]
                try rfl
              · exact An.no 1 rfl
              · exact ⟨_, _, _, Nat.le_refl _, Nat.le_refl _, Nat.le_refl _, h2⟩
          · skip
            apply g_mk
            · unfold f_X5_begin f_X0_sitDown f_X0_start f_X3_sit
              simp only [bS, oL, oR, ↓reduceIte, one0, no0, uX, false_and, and_false, true_and, and_true, and_self, sn, ssn, zero1, s10, s11, Nat.reduceEqDiff, f1, f19, lt, lt9, epp, c0, iO c1, iO_o c2]
              try rfl
            · unfold f_X7_begin
              simp only [bS, oL, oR, ↓reduceIte, one0, no0, uX, false_and, and_false, true_and, and_true, and_self, sn, ssn, zero1, s10, s11, Nat.reduceEqDiff, f2, f29, ec, ec9, hm, hm9, epp, q0, q9, c0, iI c1, iI_o c2]
              try rfl
            · exact An.no 1 rfl
            · exact ⟨_, _, _, Nat.le_refl _, Nat.le_refl _, Nat.le_refl _, h2⟩
        · skip
          apply g_mk
          · unfold f_X5_begin f_X0_sitDown f_X0_start f_X3_sit
            simp only [bS, oL, oR, ↓reduceIte, one0, no0, uX, false_and, and_false, true_and, and_true, and_self, sn, ssn, zero1, s10, s11, Nat.reduceEqDiff, f1, f19, lt, lt9, epp, c0, iO_o c1]
            try rfl
          · unfold f_X7_begin
            simp only [bS, oL, oR, ↓reduceIte, one0, no0, uX, false_and, and_false, true_and, and_true, and_self, sn, ssn, zero1, s10, s11, Nat.reduceEqDiff, f2, f29, ec, ec9, hm, hm9, epp, q0, q9, c0, iI_o c1]
            try rfl
          · exact An.no 1 rfl
          · exact ⟨_, _, _, Nat.le_refl _, Nat.le_refl _, Nat.le_refl _, h2⟩
    · skip
      apply g_mk
      · unfold f_X5_begin
        simp only [bS, oL, oR, ↓reduceIte, one0, no0, uX, false_and, and_false, true_and, and_true, and_self, sn, ssn, zero1, s10, s11, Nat.reduceEqDiff, f1, lt, pAt_o h.c21 ho]
        try rfl
      · unfold f_X7_begin
        simp only [bS, oL, oR, ↓reduceIte, one0, no0, uX, false_and, and_false, true_and, and_true, and_self, sn, ssn, zero1, s10, s11, Nat.reduceEqDiff, f2, isPl_o (show np < 1000 by omega) h.d21 ho]
        try rfl
      · exact An.no 0 rfl
      · exact ⟨_, _, _, Nat.le_refl _, Nat.le_refl _, Nat.le_refl _, h2⟩
  · skip
    apply g_mk
    · unfold f_X5_begin
      simp only [bS, oL, oR, ↓reduceIte, one0, no0, uX, false_and, and_false, true_and, and_true, and_self, sn, ssn, zero1, s10, s11, Nat.reduceEqDiff, pAt_o h.c21 ho]
      try rfl
    · unfold f_X7_begin
      simp only [bS, oL, oR, ↓reduceIte, one0, no0, uX, false_and, and_false, true_and, and_true, and_self, sn, ssn, zero1, s10, s11, Nat.reduceEqDiff, isPl_o (show np < 1000 by omega) h.d21 ho]
      try rfl
    · exact An.no 0 rfl
    · exact ⟨_, _, _, Nat.le_refl _, Nat.le_refl _, Nat.le_refl _, h2⟩
