/-! ===== the steps (wip/whole/mkfinal.py) ===== -/
theorem updL0 {o : Nat → Int64} {i : Nat} {x : Int64} : vp_updL o i x i = x := by unfold vp_updL; rw [if_pos rfl]
def Inv (k : Nat) (w : lW) : Prop := ∃ np nl ng, Iv np nl ng (40000 * k) 16 w.σ w.ρ ∧ Tau np nl ng w.τ
theorem inv_0 : Inv 0 lW0 := ⟨0, 0, 0, iv_init, Tau.init⟩
theorem t_addPlayer {N : Nat} {a : Nat → Int32} {w : lW} {ov : Int32 ⊕ String} {r th9 : Int32} {σ9 τ9 ρ9 α9 : mSt} (h1 : f_X5_addPlayer N w.σ w.τ (a 1) = some (ov, σ9, τ9)) (h2 : f_X7_addPlayer N w.th w.ρ w.α (a 1) = some (r, th9, ρ9, α9)) (h3 : An [(exA, 1), (exS, 2)] ov r th9) : ∃ o9, s_addPlayer N a w = some (th9, ρ9, α9, σ9, τ9, o9) := by
  rcases h3 with ⟨rfl, rfl⟩ | ⟨e, c, hm, rfl, rfl⟩
  · have e : f_L_addPlayer N w.σ w.τ w.o (a 1) = some (0, σ9, τ9, vp_updL w.o (0 : Int32).toNatClampNeg r.toInt64) := by
      unfold f_L_addPlayer
      rw [h1]
      rfl
    refine ⟨vp_updL w.o (0 : Int32).toNatClampNeg r.toInt64, ?_⟩
    unfold s_addPlayer f_X7_thrown
    rw [e]
    simp only [bS]
    rw [h2]
    simp only [bS]
    rw [if_pos trivial, if_pos trivial, if_pos updL0]
  · refine ⟨w.o, ?_⟩
    rcases List.mem_cons.mp hm with hq | hm
    · obtain ⟨rfl, rfl⟩ := Prod.mk.inj hq
      have e : f_L_addPlayer N w.σ w.τ w.o (a 1) = some (1, σ9, τ9, w.o) := by
        unfold f_L_addPlayer
        rw [h1]
        simp only [bS, oR]
        rw [if_pos trivial]
      unfold s_addPlayer f_X7_thrown
      rw [e]
      simp only [bS]
      rw [h2]
      simp only [bS]
      rw [if_pos trivial, if_neg (show ¬ (1 : Int32) = 0 by decide)]
    rcases List.mem_cons.mp hm with hq | hm
    · obtain ⟨rfl, rfl⟩ := Prod.mk.inj hq
      have e : f_L_addPlayer N w.σ w.τ w.o (a 1) = some (2, σ9, τ9, w.o) := by
        unfold f_L_addPlayer
        rw [h1]
        simp only [bS, oR]
        rw [if_neg (show ¬ (exS = "java/lang/IllegalArgumentException") by decide), if_pos trivial]
      unfold s_addPlayer f_X7_thrown
      rw [e]
      simp only [bS]
      rw [h2]
      simp only [bS]
      rw [if_pos trivial, if_neg (show ¬ (2 : Int32) = 0 by decide)]
    exact absurd hm List.not_mem_nil
theorem t_player {N : Nat} {a : Nat → Int32} {w : lW} {ov : Int32 ⊕ String} {r th9 : Int32} {σ9 τ9 ρ9 α9 : mSt} (h1 : f_X5_player N w.σ w.τ (a 1) (a 2) = some (ov, σ9, τ9)) (h2 : f_X7_player N w.th w.ρ w.α (a 1) (a 2) = some (r, th9, ρ9, α9)) (h3 : An [(exI, 1)] ov r th9) : ∃ o9, s_player N a w = some (th9, ρ9, α9, σ9, τ9, o9) := by
  rcases h3 with ⟨rfl, rfl⟩ | ⟨e, c, hm, rfl, rfl⟩
  · have e : f_L_player N w.σ w.τ w.o (a 1) (a 2) = some (0, σ9, τ9, vp_updL w.o (0 : Int32).toNatClampNeg r.toInt64) := by
      unfold f_L_player
      rw [h1]
      rfl
    refine ⟨vp_updL w.o (0 : Int32).toNatClampNeg r.toInt64, ?_⟩
    unfold s_player f_X7_thrown
    rw [e]
    simp only [bS]
    rw [h2]
    simp only [bS]
    rw [if_pos trivial, if_pos trivial, if_pos updL0]
  · refine ⟨w.o, ?_⟩
    rcases List.mem_cons.mp hm with hq | hm
    · obtain ⟨rfl, rfl⟩ := Prod.mk.inj hq
      have e : f_L_player N w.σ w.τ w.o (a 1) (a 2) = some (1, σ9, τ9, w.o) := by
        unfold f_L_player
        rw [h1]
        simp only [bS, oR]
        rw [if_pos trivial]
      unfold s_player f_X7_thrown
      rw [e]
      simp only [bS]
      rw [h2]
      simp only [bS]
      rw [if_pos trivial, if_neg (show ¬ (1 : Int32) = 0 by decide)]
    exact absurd hm List.not_mem_nil
theorem t_buy {N : Nat} {a : Nat → Int32} {w : lW} {ov : Int32 ⊕ String} {r th9 : Int32} {σ9 τ9 ρ9 α9 : mSt} (h1 : f_X5_buy N w.σ w.τ (a 1) (a 2) = some (ov, σ9, τ9)) (h2 : f_X7_buy N w.th w.ρ w.α (a 1) (a 2) = some (r, th9, ρ9, α9)) (h3 : An [(exI, 1), (exA, 2), (exS, 3)] ov r th9) : ∃ o9, s_buy N a w = some (th9, ρ9, α9, σ9, τ9, o9) := by
  rcases h3 with ⟨rfl, rfl⟩ | ⟨e, c, hm, rfl, rfl⟩
  · have e : f_L_buy N w.σ w.τ w.o (a 1) (a 2) = some (0, σ9, τ9, vp_updL w.o (0 : Int32).toNatClampNeg r.toInt64) := by
      unfold f_L_buy
      rw [h1]
      rfl
    refine ⟨vp_updL w.o (0 : Int32).toNatClampNeg r.toInt64, ?_⟩
    unfold s_buy f_X7_thrown
    rw [e]
    simp only [bS]
    rw [h2]
    simp only [bS]
    rw [if_pos trivial, if_pos trivial, if_pos updL0]
  · refine ⟨w.o, ?_⟩
    rcases List.mem_cons.mp hm with hq | hm
    · obtain ⟨rfl, rfl⟩ := Prod.mk.inj hq
      have e : f_L_buy N w.σ w.τ w.o (a 1) (a 2) = some (1, σ9, τ9, w.o) := by
        unfold f_L_buy
        rw [h1]
        simp only [bS, oR]
        rw [if_pos trivial]
      unfold s_buy f_X7_thrown
      rw [e]
      simp only [bS]
      rw [h2]
      simp only [bS]
      rw [if_pos trivial, if_neg (show ¬ (1 : Int32) = 0 by decide)]
    rcases List.mem_cons.mp hm with hq | hm
    · obtain ⟨rfl, rfl⟩ := Prod.mk.inj hq
      have e : f_L_buy N w.σ w.τ w.o (a 1) (a 2) = some (2, σ9, τ9, w.o) := by
        unfold f_L_buy
        rw [h1]
        simp only [bS, oR]
        rw [if_neg (show ¬ (exA = "java/lang/IndexOutOfBoundsException") by decide), if_pos trivial]
      unfold s_buy f_X7_thrown
      rw [e]
      simp only [bS]
      rw [h2]
      simp only [bS]
      rw [if_pos trivial, if_neg (show ¬ (2 : Int32) = 0 by decide)]
    rcases List.mem_cons.mp hm with hq | hm
    · obtain ⟨rfl, rfl⟩ := Prod.mk.inj hq
      have e : f_L_buy N w.σ w.τ w.o (a 1) (a 2) = some (3, σ9, τ9, w.o) := by
        unfold f_L_buy
        rw [h1]
        simp only [bS, oR]
        rw [if_neg (show ¬ (exS = "java/lang/IndexOutOfBoundsException") by decide), if_neg (show ¬ (exS = "java/lang/IllegalArgumentException") by decide), if_pos trivial]
      unfold s_buy f_X7_thrown
      rw [e]
      simp only [bS]
      rw [h2]
      simp only [bS]
      rw [if_pos trivial, if_neg (show ¬ (3 : Int32) = 0 by decide)]
    exact absurd hm List.not_mem_nil
theorem t_sell {N : Nat} {a : Nat → Int32} {w : lW} {ov : Int32 ⊕ String} {r th9 : Int32} {σ9 τ9 ρ9 α9 : mSt} (h1 : f_X5_sell N w.σ w.τ (a 1) (a 2) = some (ov, σ9, τ9)) (h2 : f_X7_sell N w.th w.ρ w.α (a 1) (a 2) = some (r, th9, ρ9, α9)) (h3 : An [(exI, 1), (exA, 2), (exS, 3)] ov r th9) : ∃ o9, s_sell N a w = some (th9, ρ9, α9, σ9, τ9, o9) := by
  rcases h3 with ⟨rfl, rfl⟩ | ⟨e, c, hm, rfl, rfl⟩
  · have e : f_L_sell N w.σ w.τ w.o (a 1) (a 2) = some (0, σ9, τ9, vp_updL w.o (0 : Int32).toNatClampNeg r.toInt64) := by
      unfold f_L_sell
      rw [h1]
      rfl
    refine ⟨vp_updL w.o (0 : Int32).toNatClampNeg r.toInt64, ?_⟩
    unfold s_sell f_X7_thrown
    rw [e]
    simp only [bS]
    rw [h2]
    simp only [bS]
    rw [if_pos trivial, if_pos trivial, if_pos updL0]
  · refine ⟨w.o, ?_⟩
    rcases List.mem_cons.mp hm with hq | hm
    · obtain ⟨rfl, rfl⟩ := Prod.mk.inj hq
      have e : f_L_sell N w.σ w.τ w.o (a 1) (a 2) = some (1, σ9, τ9, w.o) := by
        unfold f_L_sell
        rw [h1]
        simp only [bS, oR]
        rw [if_pos trivial]
      unfold s_sell f_X7_thrown
      rw [e]
      simp only [bS]
      rw [h2]
      simp only [bS]
      rw [if_pos trivial, if_neg (show ¬ (1 : Int32) = 0 by decide)]
    rcases List.mem_cons.mp hm with hq | hm
    · obtain ⟨rfl, rfl⟩ := Prod.mk.inj hq
      have e : f_L_sell N w.σ w.τ w.o (a 1) (a 2) = some (2, σ9, τ9, w.o) := by
        unfold f_L_sell
        rw [h1]
        simp only [bS, oR]
        rw [if_neg (show ¬ (exA = "java/lang/IndexOutOfBoundsException") by decide), if_pos trivial]
      unfold s_sell f_X7_thrown
      rw [e]
      simp only [bS]
      rw [h2]
      simp only [bS]
      rw [if_pos trivial, if_neg (show ¬ (2 : Int32) = 0 by decide)]
    rcases List.mem_cons.mp hm with hq | hm
    · obtain ⟨rfl, rfl⟩ := Prod.mk.inj hq
      have e : f_L_sell N w.σ w.τ w.o (a 1) (a 2) = some (3, σ9, τ9, w.o) := by
        unfold f_L_sell
        rw [h1]
        simp only [bS, oR]
        rw [if_neg (show ¬ (exS = "java/lang/IndexOutOfBoundsException") by decide), if_neg (show ¬ (exS = "java/lang/IllegalArgumentException") by decide), if_pos trivial]
      unfold s_sell f_X7_thrown
      rw [e]
      simp only [bS]
      rw [h2]
      simp only [bS]
      rw [if_pos trivial, if_neg (show ¬ (3 : Int32) = 0 by decide)]
    exact absurd hm List.not_mem_nil
theorem t_borrow {N : Nat} {a : Nat → Int32} {w : lW} {ov : Int32 ⊕ String} {r th9 : Int32} {σ9 τ9 ρ9 α9 : mSt} (h1 : f_X5_borrow N w.σ w.τ (a 1) (a 2) (a 3) (a 4) = some (ov, σ9, τ9)) (h2 : f_X7_borrow N w.th w.ρ w.α (a 1) (a 2) (a 3) (a 4) = some (r, th9, ρ9, α9)) (h3 : An [(exI, 1), (exA, 2), (exS, 3)] ov r th9) : ∃ o9, s_borrow N a w = some (th9, ρ9, α9, σ9, τ9, o9) := by
  rcases h3 with ⟨rfl, rfl⟩ | ⟨e, c, hm, rfl, rfl⟩
  · have e : f_L_borrow N w.σ w.τ w.o (a 1) (a 2) (a 3) (a 4) = some (0, σ9, τ9, vp_updL w.o (0 : Int32).toNatClampNeg r.toInt64) := by
      unfold f_L_borrow
      rw [h1]
      rfl
    refine ⟨vp_updL w.o (0 : Int32).toNatClampNeg r.toInt64, ?_⟩
    unfold s_borrow f_X7_thrown
    rw [e]
    simp only [bS]
    rw [h2]
    simp only [bS]
    rw [if_pos trivial, if_pos trivial, if_pos updL0]
  · refine ⟨w.o, ?_⟩
    rcases List.mem_cons.mp hm with hq | hm
    · obtain ⟨rfl, rfl⟩ := Prod.mk.inj hq
      have e : f_L_borrow N w.σ w.τ w.o (a 1) (a 2) (a 3) (a 4) = some (1, σ9, τ9, w.o) := by
        unfold f_L_borrow
        rw [h1]
        simp only [bS, oR]
        rw [if_pos trivial]
      unfold s_borrow f_X7_thrown
      rw [e]
      simp only [bS]
      rw [h2]
      simp only [bS]
      rw [if_pos trivial, if_neg (show ¬ (1 : Int32) = 0 by decide)]
    rcases List.mem_cons.mp hm with hq | hm
    · obtain ⟨rfl, rfl⟩ := Prod.mk.inj hq
      have e : f_L_borrow N w.σ w.τ w.o (a 1) (a 2) (a 3) (a 4) = some (2, σ9, τ9, w.o) := by
        unfold f_L_borrow
        rw [h1]
        simp only [bS, oR]
        rw [if_neg (show ¬ (exA = "java/lang/IndexOutOfBoundsException") by decide), if_pos trivial]
      unfold s_borrow f_X7_thrown
      rw [e]
      simp only [bS]
      rw [h2]
      simp only [bS]
      rw [if_pos trivial, if_neg (show ¬ (2 : Int32) = 0 by decide)]
    rcases List.mem_cons.mp hm with hq | hm
    · obtain ⟨rfl, rfl⟩ := Prod.mk.inj hq
      have e : f_L_borrow N w.σ w.τ w.o (a 1) (a 2) (a 3) (a 4) = some (3, σ9, τ9, w.o) := by
        unfold f_L_borrow
        rw [h1]
        simp only [bS, oR]
        rw [if_neg (show ¬ (exS = "java/lang/IndexOutOfBoundsException") by decide), if_neg (show ¬ (exS = "java/lang/IllegalArgumentException") by decide), if_pos trivial]
      unfold s_borrow f_X7_thrown
      rw [e]
      simp only [bS]
      rw [h2]
      simp only [bS]
      rw [if_pos trivial, if_neg (show ¬ (3 : Int32) = 0 by decide)]
    exact absurd hm List.not_mem_nil
theorem t_repay {N : Nat} {a : Nat → Int32} {w : lW} {ov : Int32 ⊕ String} {r th9 : Int32} {σ9 τ9 ρ9 α9 : mSt} (h1 : f_X5_repay N w.σ w.τ (a 1) (a 2) = some (ov, σ9, τ9)) (h2 : f_X7_repay N w.th w.ρ w.α (a 1) (a 2) = some (r, th9, ρ9, α9)) (h3 : An [(exI, 1), (exA, 2), (exS, 3)] ov r th9) : ∃ o9, s_repay N a w = some (th9, ρ9, α9, σ9, τ9, o9) := by
  rcases h3 with ⟨rfl, rfl⟩ | ⟨e, c, hm, rfl, rfl⟩
  · have e : f_L_repay N w.σ w.τ w.o (a 1) (a 2) = some (0, σ9, τ9, vp_updL w.o (0 : Int32).toNatClampNeg r.toInt64) := by
      unfold f_L_repay
      rw [h1]
      rfl
    refine ⟨vp_updL w.o (0 : Int32).toNatClampNeg r.toInt64, ?_⟩
    unfold s_repay f_X7_thrown
    rw [e]
    simp only [bS]
    rw [h2]
    simp only [bS]
    rw [if_pos trivial, if_pos trivial, if_pos updL0]
  · refine ⟨w.o, ?_⟩
    rcases List.mem_cons.mp hm with hq | hm
    · obtain ⟨rfl, rfl⟩ := Prod.mk.inj hq
      have e : f_L_repay N w.σ w.τ w.o (a 1) (a 2) = some (1, σ9, τ9, w.o) := by
        unfold f_L_repay
        rw [h1]
        simp only [bS, oR]
        rw [if_pos trivial]
      unfold s_repay f_X7_thrown
      rw [e]
      simp only [bS]
      rw [h2]
      simp only [bS]
      rw [if_pos trivial, if_neg (show ¬ (1 : Int32) = 0 by decide)]
    rcases List.mem_cons.mp hm with hq | hm
    · obtain ⟨rfl, rfl⟩ := Prod.mk.inj hq
      have e : f_L_repay N w.σ w.τ w.o (a 1) (a 2) = some (2, σ9, τ9, w.o) := by
        unfold f_L_repay
        rw [h1]
        simp only [bS, oR]
        rw [if_neg (show ¬ (exA = "java/lang/IndexOutOfBoundsException") by decide), if_pos trivial]
      unfold s_repay f_X7_thrown
      rw [e]
      simp only [bS]
      rw [h2]
      simp only [bS]
      rw [if_pos trivial, if_neg (show ¬ (2 : Int32) = 0 by decide)]
    rcases List.mem_cons.mp hm with hq | hm
    · obtain ⟨rfl, rfl⟩ := Prod.mk.inj hq
      have e : f_L_repay N w.σ w.τ w.o (a 1) (a 2) = some (3, σ9, τ9, w.o) := by
        unfold f_L_repay
        rw [h1]
        simp only [bS, oR]
        rw [if_neg (show ¬ (exS = "java/lang/IndexOutOfBoundsException") by decide), if_neg (show ¬ (exS = "java/lang/IllegalArgumentException") by decide), if_pos trivial]
      unfold s_repay f_X7_thrown
      rw [e]
      simp only [bS]
      rw [h2]
      simp only [bS]
      rw [if_pos trivial, if_neg (show ¬ (3 : Int32) = 0 by decide)]
    exact absurd hm List.not_mem_nil
theorem t_loan {N : Nat} {a : Nat → Int32} {w : lW} {ov : Int32 ⊕ String} {r th9 : Int32} {σ9 τ9 ρ9 α9 : mSt} (h1 : f_X5_loan N w.σ w.τ (a 1) (a 2) = some (ov, σ9, τ9)) (h2 : f_X7_loan N w.th w.ρ w.α (a 1) (a 2) = some (r, th9, ρ9, α9)) (h3 : An [(exI, 1)] ov r th9) : ∃ o9, s_loan N a w = some (th9, ρ9, α9, σ9, τ9, o9) := by
  rcases h3 with ⟨rfl, rfl⟩ | ⟨e, c, hm, rfl, rfl⟩
  · have e : f_L_loan N w.σ w.τ w.o (a 1) (a 2) = some (0, σ9, τ9, vp_updL w.o (0 : Int32).toNatClampNeg r.toInt64) := by
      unfold f_L_loan
      rw [h1]
      rfl
    refine ⟨vp_updL w.o (0 : Int32).toNatClampNeg r.toInt64, ?_⟩
    unfold s_loan f_X7_thrown
    rw [e]
    simp only [bS]
    rw [h2]
    simp only [bS]
    rw [if_pos trivial, if_pos trivial, if_pos updL0]
  · refine ⟨w.o, ?_⟩
    rcases List.mem_cons.mp hm with hq | hm
    · obtain ⟨rfl, rfl⟩ := Prod.mk.inj hq
      have e : f_L_loan N w.σ w.τ w.o (a 1) (a 2) = some (1, σ9, τ9, w.o) := by
        unfold f_L_loan
        rw [h1]
        simp only [bS, oR]
        rw [if_pos trivial]
      unfold s_loan f_X7_thrown
      rw [e]
      simp only [bS]
      rw [h2]
      simp only [bS]
      rw [if_pos trivial, if_neg (show ¬ (1 : Int32) = 0 by decide)]
    exact absurd hm List.not_mem_nil
theorem t_begin {N : Nat} {a : Nat → Int32} {w : lW} {ov : Int32 ⊕ String} {r th9 : Int32} {σ9 τ9 ρ9 α9 : mSt} (h1 : f_X5_begin N w.σ w.τ (a 1) (a 2) (a 3) (a 4) (a 5) (a 6) = some (ov, σ9, τ9)) (h2 : f_X7_begin N w.th w.ρ w.α (a 1) (a 2) (a 3) (a 4) (a 5) (a 6) = some (r, th9, ρ9, α9)) (h3 : An [(exI, 1), (exA, 2), (exS, 3)] ov r th9) : ∃ o9, s_begin N a w = some (th9, ρ9, α9, σ9, τ9, o9) := by
  rcases h3 with ⟨rfl, rfl⟩ | ⟨e, c, hm, rfl, rfl⟩
  · have e : f_L_begin N w.σ w.τ w.o (a 1) (a 2) (a 3) (a 4) (a 5) (a 6) = some (0, σ9, τ9, vp_updL w.o (0 : Int32).toNatClampNeg r.toInt64) := by
      unfold f_L_begin
      rw [h1]
      rfl
    refine ⟨vp_updL w.o (0 : Int32).toNatClampNeg r.toInt64, ?_⟩
    unfold s_begin f_X7_thrown
    rw [e]
    simp only [bS]
    rw [h2]
    simp only [bS]
    rw [if_pos trivial, if_pos trivial, if_pos updL0]
  · refine ⟨w.o, ?_⟩
    rcases List.mem_cons.mp hm with hq | hm
    · obtain ⟨rfl, rfl⟩ := Prod.mk.inj hq
      have e : f_L_begin N w.σ w.τ w.o (a 1) (a 2) (a 3) (a 4) (a 5) (a 6) = some (1, σ9, τ9, w.o) := by
        unfold f_L_begin
        rw [h1]
        simp only [bS, oR]
        rw [if_pos trivial]
      unfold s_begin f_X7_thrown
      rw [e]
      simp only [bS]
      rw [h2]
      simp only [bS]
      rw [if_pos trivial, if_neg (show ¬ (1 : Int32) = 0 by decide)]
    rcases List.mem_cons.mp hm with hq | hm
    · obtain ⟨rfl, rfl⟩ := Prod.mk.inj hq
      have e : f_L_begin N w.σ w.τ w.o (a 1) (a 2) (a 3) (a 4) (a 5) (a 6) = some (2, σ9, τ9, w.o) := by
        unfold f_L_begin
        rw [h1]
        simp only [bS, oR]
        rw [if_neg (show ¬ (exA = "java/lang/IndexOutOfBoundsException") by decide), if_pos trivial]
      unfold s_begin f_X7_thrown
      rw [e]
      simp only [bS]
      rw [h2]
      simp only [bS]
      rw [if_pos trivial, if_neg (show ¬ (2 : Int32) = 0 by decide)]
    rcases List.mem_cons.mp hm with hq | hm
    · obtain ⟨rfl, rfl⟩ := Prod.mk.inj hq
      have e : f_L_begin N w.σ w.τ w.o (a 1) (a 2) (a 3) (a 4) (a 5) (a 6) = some (3, σ9, τ9, w.o) := by
        unfold f_L_begin
        rw [h1]
        simp only [bS, oR]
        rw [if_neg (show ¬ (exS = "java/lang/IndexOutOfBoundsException") by decide), if_neg (show ¬ (exS = "java/lang/IllegalArgumentException") by decide), if_pos trivial]
      unfold s_begin f_X7_thrown
      rw [e]
      simp only [bS]
      rw [h2]
      simp only [bS]
      rw [if_pos trivial, if_neg (show ¬ (3 : Int32) = 0 by decide)]
    exact absurd hm List.not_mem_nil
theorem t_press {N : Nat} {a : Nat → Int32} {w : lW} {ov : Int32 ⊕ String} {r th9 : Int32} {σ9 τ9 ρ9 α9 : mSt} (h1 : f_X5_press N w.σ w.τ (a 1) = some (ov, σ9, τ9)) (h2 : f_X7_press N w.th w.ρ w.α (a 1) = some (r, th9, ρ9, α9)) (h3 : An [(exI, 1), (exS, 2)] ov r th9) : ∃ o9, s_press N a w = some (th9, ρ9, α9, σ9, τ9, o9) := by
  rcases h3 with ⟨rfl, rfl⟩ | ⟨e, c, hm, rfl, rfl⟩
  · have e : f_L_press N w.σ w.τ w.o (a 1) = some (0, σ9, τ9, vp_updL w.o (0 : Int32).toNatClampNeg r.toInt64) := by
      unfold f_L_press
      rw [h1]
      rfl
    refine ⟨vp_updL w.o (0 : Int32).toNatClampNeg r.toInt64, ?_⟩
    unfold s_press f_X7_thrown
    rw [e]
    simp only [bS]
    rw [h2]
    simp only [bS]
    rw [if_pos trivial, if_pos trivial, if_pos updL0]
  · refine ⟨w.o, ?_⟩
    rcases List.mem_cons.mp hm with hq | hm
    · obtain ⟨rfl, rfl⟩ := Prod.mk.inj hq
      have e : f_L_press N w.σ w.τ w.o (a 1) = some (1, σ9, τ9, w.o) := by
        unfold f_L_press
        rw [h1]
        simp only [bS, oR]
        rw [if_pos trivial]
      unfold s_press f_X7_thrown
      rw [e]
      simp only [bS]
      rw [h2]
      simp only [bS]
      rw [if_pos trivial, if_neg (show ¬ (1 : Int32) = 0 by decide)]
    rcases List.mem_cons.mp hm with hq | hm
    · obtain ⟨rfl, rfl⟩ := Prod.mk.inj hq
      have e : f_L_press N w.σ w.τ w.o (a 1) = some (2, σ9, τ9, w.o) := by
        unfold f_L_press
        rw [h1]
        simp only [bS, oR]
        rw [if_neg (show ¬ (exS = "java/lang/IndexOutOfBoundsException") by decide), if_pos trivial]
      unfold s_press f_X7_thrown
      rw [e]
      simp only [bS]
      rw [h2]
      simp only [bS]
      rw [if_pos trivial, if_neg (show ¬ (2 : Int32) = 0 by decide)]
    exact absurd hm List.not_mem_nil
theorem t_put {N : Nat} {a : Nat → Int32} {w : lW} {ov : Int32 ⊕ String} {r th9 : Int32} {σ9 τ9 ρ9 α9 : mSt} (h1 : f_X5_put N w.σ w.τ (a 1) (a 2) (a 3) = some (ov, σ9, τ9)) (h2 : f_X7_put N w.th w.ρ w.α (a 1) (a 2) (a 3) = some (r, th9, ρ9, α9)) (h3 : An [(exI, 1), (exA, 2), (exS, 3)] ov r th9) : ∃ o9, s_put N a w = some (th9, ρ9, α9, σ9, τ9, o9) := by
  rcases h3 with ⟨rfl, rfl⟩ | ⟨e, c, hm, rfl, rfl⟩
  · have e : f_L_put N w.σ w.τ w.o (a 1) (a 2) (a 3) = some (0, σ9, τ9, vp_updL w.o (0 : Int32).toNatClampNeg r.toInt64) := by
      unfold f_L_put
      rw [h1]
      rfl
    refine ⟨vp_updL w.o (0 : Int32).toNatClampNeg r.toInt64, ?_⟩
    unfold s_put f_X7_thrown
    rw [e]
    simp only [bS]
    rw [h2]
    simp only [bS]
    rw [if_pos trivial, if_pos trivial, if_pos updL0]
  · refine ⟨w.o, ?_⟩
    rcases List.mem_cons.mp hm with hq | hm
    · obtain ⟨rfl, rfl⟩ := Prod.mk.inj hq
      have e : f_L_put N w.σ w.τ w.o (a 1) (a 2) (a 3) = some (1, σ9, τ9, w.o) := by
        unfold f_L_put
        rw [h1]
        simp only [bS, oR]
        rw [if_pos trivial]
      unfold s_put f_X7_thrown
      rw [e]
      simp only [bS]
      rw [h2]
      simp only [bS]
      rw [if_pos trivial, if_neg (show ¬ (1 : Int32) = 0 by decide)]
    rcases List.mem_cons.mp hm with hq | hm
    · obtain ⟨rfl, rfl⟩ := Prod.mk.inj hq
      have e : f_L_put N w.σ w.τ w.o (a 1) (a 2) (a 3) = some (2, σ9, τ9, w.o) := by
        unfold f_L_put
        rw [h1]
        simp only [bS, oR]
        rw [if_neg (show ¬ (exA = "java/lang/IndexOutOfBoundsException") by decide), if_pos trivial]
      unfold s_put f_X7_thrown
      rw [e]
      simp only [bS]
      rw [h2]
      simp only [bS]
      rw [if_pos trivial, if_neg (show ¬ (2 : Int32) = 0 by decide)]
    rcases List.mem_cons.mp hm with hq | hm
    · obtain ⟨rfl, rfl⟩ := Prod.mk.inj hq
      have e : f_L_put N w.σ w.τ w.o (a 1) (a 2) (a 3) = some (3, σ9, τ9, w.o) := by
        unfold f_L_put
        rw [h1]
        simp only [bS, oR]
        rw [if_neg (show ¬ (exS = "java/lang/IndexOutOfBoundsException") by decide), if_neg (show ¬ (exS = "java/lang/IllegalArgumentException") by decide), if_pos trivial]
      unfold s_put f_X7_thrown
      rw [e]
      simp only [bS]
      rw [h2]
      simp only [bS]
      rw [if_pos trivial, if_neg (show ¬ (3 : Int32) = 0 by decide)]
    exact absurd hm List.not_mem_nil
theorem t_steal {N : Nat} {a : Nat → Int32} {w : lW} {ov : Int32 ⊕ String} {r th9 : Int32} {σ9 τ9 ρ9 α9 : mSt} (h1 : f_X5_steal N w.σ w.τ (a 1) (a 2) (a 3) = some (ov, σ9, τ9)) (h2 : f_X7_steal N w.th w.ρ w.α (a 1) (a 2) (a 3) = some (r, th9, ρ9, α9)) (h3 : An [(exI, 1), (exA, 2), (exS, 3)] ov r th9) : ∃ o9, s_steal N a w = some (th9, ρ9, α9, σ9, τ9, o9) := by
  rcases h3 with ⟨rfl, rfl⟩ | ⟨e, c, hm, rfl, rfl⟩
  · have e : f_L_steal N w.σ w.τ w.o (a 1) (a 2) (a 3) = some (0, σ9, τ9, vp_updL w.o (0 : Int32).toNatClampNeg r.toInt64) := by
      unfold f_L_steal
      rw [h1]
      rfl
    refine ⟨vp_updL w.o (0 : Int32).toNatClampNeg r.toInt64, ?_⟩
    unfold s_steal f_X7_thrown
    rw [e]
    simp only [bS]
    rw [h2]
    simp only [bS]
    rw [if_pos trivial, if_pos trivial, if_pos updL0]
  · refine ⟨w.o, ?_⟩
    rcases List.mem_cons.mp hm with hq | hm
    · obtain ⟨rfl, rfl⟩ := Prod.mk.inj hq
      have e : f_L_steal N w.σ w.τ w.o (a 1) (a 2) (a 3) = some (1, σ9, τ9, w.o) := by
        unfold f_L_steal
        rw [h1]
        simp only [bS, oR]
        rw [if_pos trivial]
      unfold s_steal f_X7_thrown
      rw [e]
      simp only [bS]
      rw [h2]
      simp only [bS]
      rw [if_pos trivial, if_neg (show ¬ (1 : Int32) = 0 by decide)]
    rcases List.mem_cons.mp hm with hq | hm
    · obtain ⟨rfl, rfl⟩ := Prod.mk.inj hq
      have e : f_L_steal N w.σ w.τ w.o (a 1) (a 2) (a 3) = some (2, σ9, τ9, w.o) := by
        unfold f_L_steal
        rw [h1]
        simp only [bS, oR]
        rw [if_neg (show ¬ (exA = "java/lang/IndexOutOfBoundsException") by decide), if_pos trivial]
      unfold s_steal f_X7_thrown
      rw [e]
      simp only [bS]
      rw [h2]
      simp only [bS]
      rw [if_pos trivial, if_neg (show ¬ (2 : Int32) = 0 by decide)]
    rcases List.mem_cons.mp hm with hq | hm
    · obtain ⟨rfl, rfl⟩ := Prod.mk.inj hq
      have e : f_L_steal N w.σ w.τ w.o (a 1) (a 2) (a 3) = some (3, σ9, τ9, w.o) := by
        unfold f_L_steal
        rw [h1]
        simp only [bS, oR]
        rw [if_neg (show ¬ (exS = "java/lang/IndexOutOfBoundsException") by decide), if_neg (show ¬ (exS = "java/lang/IllegalArgumentException") by decide), if_pos trivial]
      unfold s_steal f_X7_thrown
      rw [e]
      simp only [bS]
      rw [h2]
      simp only [bS]
      rw [if_pos trivial, if_neg (show ¬ (3 : Int32) = 0 by decide)]
    exact absurd hm List.not_mem_nil
theorem t_end {N : Nat} {a : Nat → Int32} {w : lW} {ov : Int32 ⊕ String} {r th9 : Int32} {σ9 τ9 ρ9 α9 : mSt} (h1 : f_X5_end N w.σ w.τ (a 1) (a 2) = some (ov, σ9, τ9)) (h2 : f_X7_end N w.th w.ρ w.α (a 1) (a 2) = some (r, th9, ρ9, α9)) (h3 : An [(exI, 1), (exA, 2), (exS, 3)] ov r th9) : ∃ o9, s_end N a w = some (th9, ρ9, α9, σ9, τ9, o9) := by
  rcases h3 with ⟨rfl, rfl⟩ | ⟨e, c, hm, rfl, rfl⟩
  · have e : f_L_end N w.σ w.τ w.o (a 1) (a 2) = some (0, σ9, τ9, vp_updL w.o (0 : Int32).toNatClampNeg r.toInt64) := by
      unfold f_L_end
      rw [h1]
      rfl
    refine ⟨vp_updL w.o (0 : Int32).toNatClampNeg r.toInt64, ?_⟩
    unfold s_end f_X7_thrown
    rw [e]
    simp only [bS]
    rw [h2]
    simp only [bS]
    rw [if_pos trivial, if_pos trivial, if_pos updL0]
  · refine ⟨w.o, ?_⟩
    rcases List.mem_cons.mp hm with hq | hm
    · obtain ⟨rfl, rfl⟩ := Prod.mk.inj hq
      have e : f_L_end N w.σ w.τ w.o (a 1) (a 2) = some (1, σ9, τ9, w.o) := by
        unfold f_L_end
        rw [h1]
        simp only [bS, oR]
        rw [if_pos trivial]
      unfold s_end f_X7_thrown
      rw [e]
      simp only [bS]
      rw [h2]
      simp only [bS]
      rw [if_pos trivial, if_neg (show ¬ (1 : Int32) = 0 by decide)]
    rcases List.mem_cons.mp hm with hq | hm
    · obtain ⟨rfl, rfl⟩ := Prod.mk.inj hq
      have e : f_L_end N w.σ w.τ w.o (a 1) (a 2) = some (2, σ9, τ9, w.o) := by
        unfold f_L_end
        rw [h1]
        simp only [bS, oR]
        rw [if_neg (show ¬ (exA = "java/lang/IndexOutOfBoundsException") by decide), if_pos trivial]
      unfold s_end f_X7_thrown
      rw [e]
      simp only [bS]
      rw [h2]
      simp only [bS]
      rw [if_pos trivial, if_neg (show ¬ (2 : Int32) = 0 by decide)]
    rcases List.mem_cons.mp hm with hq | hm
    · obtain ⟨rfl, rfl⟩ := Prod.mk.inj hq
      have e : f_L_end N w.σ w.τ w.o (a 1) (a 2) = some (3, σ9, τ9, w.o) := by
        unfold f_L_end
        rw [h1]
        simp only [bS, oR]
        rw [if_neg (show ¬ (exS = "java/lang/IndexOutOfBoundsException") by decide), if_neg (show ¬ (exS = "java/lang/IllegalArgumentException") by decide), if_pos trivial]
      unfold s_end f_X7_thrown
      rw [e]
      simp only [bS]
      rw [h2]
      simp only [bS]
      rw [if_pos trivial, if_neg (show ¬ (3 : Int32) = 0 by decide)]
    exact absurd hm List.not_mem_nil
theorem t_game {N : Nat} {a : Nat → Int32} {w : lW} {ov : Int32 ⊕ String} {r th9 : Int32} {σ9 τ9 ρ9 α9 : mSt} (h1 : f_X5_game N w.σ w.τ (a 1) (a 2) = some (ov, σ9, τ9)) (h2 : f_X7_game N w.th w.ρ w.α (a 1) (a 2) = some (r, th9, ρ9, α9)) (h3 : An [(exI, 1)] ov r th9) : ∃ o9, s_game N a w = some (th9, ρ9, α9, σ9, τ9, o9) := by
  rcases h3 with ⟨rfl, rfl⟩ | ⟨e, c, hm, rfl, rfl⟩
  · have e : f_L_game N w.σ w.τ w.o (a 1) (a 2) = some (0, σ9, τ9, vp_updL w.o (0 : Int32).toNatClampNeg r.toInt64) := by
      unfold f_L_game
      rw [h1]
      rfl
    refine ⟨vp_updL w.o (0 : Int32).toNatClampNeg r.toInt64, ?_⟩
    unfold s_game f_X7_thrown
    rw [e]
    simp only [bS]
    rw [h2]
    simp only [bS]
    rw [if_pos trivial, if_pos trivial, if_pos updL0]
  · refine ⟨w.o, ?_⟩
    rcases List.mem_cons.mp hm with hq | hm
    · obtain ⟨rfl, rfl⟩ := Prod.mk.inj hq
      have e : f_L_game N w.σ w.τ w.o (a 1) (a 2) = some (1, σ9, τ9, w.o) := by
        unfold f_L_game
        rw [h1]
        simp only [bS, oR]
        rw [if_pos trivial]
      unfold s_game f_X7_thrown
      rw [e]
      simp only [bS]
      rw [h2]
      simp only [bS]
      rw [if_pos trivial, if_neg (show ¬ (1 : Int32) = 0 by decide)]
    exact absurd hm List.not_mem_nil
theorem t_pass {N : Nat} {a : Nat → Int32} {w : lW} {ov : Int32 ⊕ String} {r th9 : Int32} {σ9 τ9 ρ9 α9 : mSt} (h1 : f_X5_pass N w.σ w.τ (a 1) = some (ov, σ9, τ9)) (h2 : f_X7_pass N w.th w.ρ w.α (a 1) = some (r, th9, ρ9, α9)) (h3 : An [(exA, 1), (exS, 2)] ov r th9) : ∃ o9, s_pass N a w = some (th9, ρ9, α9, σ9, τ9, o9) := by
  rcases h3 with ⟨rfl, rfl⟩ | ⟨e, c, hm, rfl, rfl⟩
  · have e : f_L_pass N w.σ w.τ w.o (a 1) = some (0, σ9, τ9, vp_updL w.o (0 : Int32).toNatClampNeg r.toInt64) := by
      unfold f_L_pass
      rw [h1]
      rfl
    refine ⟨vp_updL w.o (0 : Int32).toNatClampNeg r.toInt64, ?_⟩
    unfold s_pass f_X7_thrown
    rw [e]
    simp only [bS]
    rw [h2]
    simp only [bS]
    rw [if_pos trivial, if_pos trivial, if_pos updL0]
  · refine ⟨w.o, ?_⟩
    rcases List.mem_cons.mp hm with hq | hm
    · obtain ⟨rfl, rfl⟩ := Prod.mk.inj hq
      have e : f_L_pass N w.σ w.τ w.o (a 1) = some (1, σ9, τ9, w.o) := by
        unfold f_L_pass
        rw [h1]
        simp only [bS, oR]
        rw [if_pos trivial]
      unfold s_pass f_X7_thrown
      rw [e]
      simp only [bS]
      rw [h2]
      simp only [bS]
      rw [if_pos trivial, if_neg (show ¬ (1 : Int32) = 0 by decide)]
    rcases List.mem_cons.mp hm with hq | hm
    · obtain ⟨rfl, rfl⟩ := Prod.mk.inj hq
      have e : f_L_pass N w.σ w.τ w.o (a 1) = some (2, σ9, τ9, w.o) := by
        unfold f_L_pass
        rw [h1]
        simp only [bS, oR]
        rw [if_neg (show ¬ (exS = "java/lang/IllegalArgumentException") by decide), if_pos trivial]
      unfold s_pass f_X7_thrown
      rw [e]
      simp only [bS]
      rw [h2]
      simp only [bS]
      rw [if_pos trivial, if_neg (show ¬ (2 : Int32) = 0 by decide)]
    exact absurd hm List.not_mem_nil
theorem t_count {N : Nat} {a : Nat → Int32} {w : lW} {ov : Int32 ⊕ String} {r th9 : Int32} {σ9 τ9 ρ9 α9 : mSt} (h1 : f_X5_count N w.σ w.τ (a 1) = some (ov, σ9, τ9)) (h2 : f_X7_count N w.th w.ρ w.α (a 1) = some (r, th9, ρ9, α9)) (h3 : An [(exI, 1)] ov r th9) : ∃ o9, s_count N a w = some (th9, ρ9, α9, σ9, τ9, o9) := by
  rcases h3 with ⟨rfl, rfl⟩ | ⟨e, c, hm, rfl, rfl⟩
  · have e : f_L_count N w.σ w.τ w.o (a 1) = some (0, σ9, τ9, vp_updL w.o (0 : Int32).toNatClampNeg r.toInt64) := by
      unfold f_L_count
      rw [h1]
      rfl
    refine ⟨vp_updL w.o (0 : Int32).toNatClampNeg r.toInt64, ?_⟩
    unfold s_count f_X7_thrown
    rw [e]
    simp only [bS]
    rw [h2]
    simp only [bS]
    rw [if_pos trivial, if_pos trivial, if_pos updL0]
  · refine ⟨w.o, ?_⟩
    rcases List.mem_cons.mp hm with hq | hm
    · obtain ⟨rfl, rfl⟩ := Prod.mk.inj hq
      have e : f_L_count N w.σ w.τ w.o (a 1) = some (1, σ9, τ9, w.o) := by
        unfold f_L_count
        rw [h1]
        simp only [bS, oR]
        rw [if_pos trivial]
      unfold s_count f_X7_thrown
      rw [e]
      simp only [bS]
      rw [h2]
      simp only [bS]
      rw [if_pos trivial, if_neg (show ¬ (1 : Int32) = 0 by decide)]
    exact absurd hm List.not_mem_nil
theorem t_foresee {N : Nat} {a : Nat → Int32} {w : lW} {ov : Int32 ⊕ String} {r th9 : Int32} {σ9 τ9 ρ9 α9 : mSt} (h1 : f_X5_foresee N w.σ w.τ (a 1) (a 2) = some (ov, σ9, τ9)) (h2 : f_X7_foresee N w.th w.ρ w.α (a 1) (a 2) = some (r, th9, ρ9, α9)) (h3 : An [(exA, 1), (exI, 2), (exS, 3)] ov r th9) : ∃ o9, s_foresee N a w = some (th9, ρ9, α9, σ9, τ9, o9) := by
  rcases h3 with ⟨rfl, rfl⟩ | ⟨e, c, hm, rfl, rfl⟩
  · have e : f_L_foresee N w.σ w.τ w.o (a 1) (a 2) = some (0, σ9, τ9, vp_updL w.o (0 : Int32).toNatClampNeg r.toInt64) := by
      unfold f_L_foresee
      rw [h1]
      rfl
    refine ⟨vp_updL w.o (0 : Int32).toNatClampNeg r.toInt64, ?_⟩
    unfold s_foresee f_X7_thrown
    rw [e]
    simp only [bS]
    rw [h2]
    simp only [bS]
    rw [if_pos trivial, if_pos trivial, if_pos updL0]
  · refine ⟨w.o, ?_⟩
    rcases List.mem_cons.mp hm with hq | hm
    · obtain ⟨rfl, rfl⟩ := Prod.mk.inj hq
      have e : f_L_foresee N w.σ w.τ w.o (a 1) (a 2) = some (1, σ9, τ9, w.o) := by
        unfold f_L_foresee
        rw [h1]
        simp only [bS, oR]
        rw [if_pos trivial]
      unfold s_foresee f_X7_thrown
      rw [e]
      simp only [bS]
      rw [h2]
      simp only [bS]
      rw [if_pos trivial, if_neg (show ¬ (1 : Int32) = 0 by decide)]
    rcases List.mem_cons.mp hm with hq | hm
    · obtain ⟨rfl, rfl⟩ := Prod.mk.inj hq
      have e : f_L_foresee N w.σ w.τ w.o (a 1) (a 2) = some (2, σ9, τ9, w.o) := by
        unfold f_L_foresee
        rw [h1]
        simp only [bS, oR]
        rw [if_neg (show ¬ (exI = "java/lang/IllegalArgumentException") by decide), if_pos trivial]
      unfold s_foresee f_X7_thrown
      rw [e]
      simp only [bS]
      rw [h2]
      simp only [bS]
      rw [if_pos trivial, if_neg (show ¬ (2 : Int32) = 0 by decide)]
    rcases List.mem_cons.mp hm with hq | hm
    · obtain ⟨rfl, rfl⟩ := Prod.mk.inj hq
      have e : f_L_foresee N w.σ w.τ w.o (a 1) (a 2) = some (3, σ9, τ9, w.o) := by
        unfold f_L_foresee
        rw [h1]
        simp only [bS, oR]
        rw [if_neg (show ¬ (exS = "java/lang/IllegalArgumentException") by decide), if_neg (show ¬ (exS = "java/lang/IndexOutOfBoundsException") by decide), if_pos trivial]
      unfold s_foresee f_X7_thrown
      rw [e]
      simp only [bS]
      rw [h2]
      simp only [bS]
      rw [if_pos trivial, if_neg (show ¬ (3 : Int32) = 0 by decide)]
    exact absurd hm List.not_mem_nil
theorem t_leader {N : Nat} {a : Nat → Int32} {w : lW} {ov : Int32 ⊕ String} {r th9 : Int32} {σ9 τ9 ρ9 α9 : mSt} (h1 : f_X5_leader N w.σ w.τ (a 1) = some (ov, σ9, τ9)) (h2 : f_X7_leader N w.th w.ρ w.α (a 1) = some (r, th9, ρ9, α9)) (h3 : An [(exI, 1)] ov r th9) : ∃ o9, s_leader N a w = some (th9, ρ9, α9, σ9, τ9, o9) := by
  rcases h3 with ⟨rfl, rfl⟩ | ⟨e, c, hm, rfl, rfl⟩
  · have e : f_L_leader N w.σ w.τ w.o (a 1) = some (0, σ9, τ9, vp_updL w.o (0 : Int32).toNatClampNeg r.toInt64) := by
      unfold f_L_leader
      rw [h1]
      rfl
    refine ⟨vp_updL w.o (0 : Int32).toNatClampNeg r.toInt64, ?_⟩
    unfold s_leader f_X7_thrown
    rw [e]
    simp only [bS]
    rw [h2]
    simp only [bS]
    rw [if_pos trivial, if_pos trivial, if_pos updL0]
  · refine ⟨w.o, ?_⟩
    rcases List.mem_cons.mp hm with hq | hm
    · obtain ⟨rfl, rfl⟩ := Prod.mk.inj hq
      have e : f_L_leader N w.σ w.τ w.o (a 1) = some (1, σ9, τ9, w.o) := by
        unfold f_L_leader
        rw [h1]
        simp only [bS, oR]
        rw [if_pos trivial]
      unfold s_leader f_X7_thrown
      rw [e]
      simp only [bS]
      rw [h2]
      simp only [bS]
      rw [if_pos trivial, if_neg (show ¬ (1 : Int32) = 0 by decide)]
    exact absurd hm List.not_mem_nil
theorem t_needs {N : Nat} {a : Nat → Int32} {w : lW} {ov : Int32 ⊕ String} {r th9 : Int32} {σ9 τ9 ρ9 α9 : mSt} (h1 : f_X5_needs N w.σ w.τ (a 1) (a 2) = some (ov, σ9, τ9)) (h2 : f_X7_needs N w.th w.ρ w.α (a 1) (a 2) = some (r, th9, ρ9, α9)) (h3 : An [(exI, 1), (exA, 2)] ov r th9) : ∃ o9, s_needs N a w = some (th9, ρ9, α9, σ9, τ9, o9) := by
  rcases h3 with ⟨rfl, rfl⟩ | ⟨e, c, hm, rfl, rfl⟩
  · have e : f_L_needs N w.σ w.τ w.o (a 1) (a 2) = some (0, σ9, τ9, vp_updL w.o (0 : Int32).toNatClampNeg r.toInt64) := by
      unfold f_L_needs
      rw [h1]
      rfl
    refine ⟨vp_updL w.o (0 : Int32).toNatClampNeg r.toInt64, ?_⟩
    unfold s_needs f_X7_thrown
    rw [e]
    simp only [bS]
    rw [h2]
    simp only [bS]
    rw [if_pos trivial, if_pos trivial, if_pos updL0]
  · refine ⟨w.o, ?_⟩
    rcases List.mem_cons.mp hm with hq | hm
    · obtain ⟨rfl, rfl⟩ := Prod.mk.inj hq
      have e : f_L_needs N w.σ w.τ w.o (a 1) (a 2) = some (1, σ9, τ9, w.o) := by
        unfold f_L_needs
        rw [h1]
        simp only [bS, oR]
        rw [if_pos trivial]
      unfold s_needs f_X7_thrown
      rw [e]
      simp only [bS]
      rw [h2]
      simp only [bS]
      rw [if_pos trivial, if_neg (show ¬ (1 : Int32) = 0 by decide)]
    rcases List.mem_cons.mp hm with hq | hm
    · obtain ⟨rfl, rfl⟩ := Prod.mk.inj hq
      have e : f_L_needs N w.σ w.τ w.o (a 1) (a 2) = some (2, σ9, τ9, w.o) := by
        unfold f_L_needs
        rw [h1]
        simp only [bS, oR]
        rw [if_neg (show ¬ (exA = "java/lang/IndexOutOfBoundsException") by decide), if_pos trivial]
      unfold s_needs f_X7_thrown
      rw [e]
      simp only [bS]
      rw [h2]
      simp only [bS]
      rw [if_pos trivial, if_neg (show ¬ (2 : Int32) = 0 by decide)]
    exact absurd hm List.not_mem_nil
theorem pure_step (k : Nat) (w : lW) (a : Nat → Int32) (hk : k < 512) (hI : Inv k w) : ∃ w', f_step 3001 a w = some w' ∧ Inv (k + 1) w' := by
  obtain ⟨np, nl, ng, h, ht⟩ := hI
  have hB : 40000 * k ≤ 21000000 := by omega
  have hN : 100 ≤ 3001 := by omega
  have e9 : 40000 * k + 40000 = 40000 * (k + 1) := by omega
  have h2 : Iv np nl ng (40000 * (k + 1)) 16 w.σ w.ρ := iv_B h (by omega)
  unfold f_step
  by_cases c0 : a 0 &&& 31 = 0
  · rw [if_pos c0]
    obtain ⟨ov, r, th9, σ9, ρ9, q1, q2, q3, q4⟩ := g_addPlayer (N := 3001) (τ := w.τ) (α := w.α) (th := w.th) h hB (a 1)
    obtain ⟨o9, q5⟩ := t_addPlayer q1 q2 q3
    obtain ⟨np9, nl9, ng9, g1, g2, g3, q4⟩ := q4
    exact ⟨_, q5, np9, nl9, ng9, by rw [← e9]; exact q4, ht.mono g1 g2 g3⟩
  rw [if_neg c0]
  by_cases c1 : a 0 &&& 31 = 1
  · rw [if_pos c1]
    obtain ⟨ov, r, th9, σ9, ρ9, q1, q2, q3, q4⟩ := g_player (N := 3001) (τ := w.τ) (α := w.α) (th := w.th) h hN (a 1) (a 2)
    obtain ⟨o9, q5⟩ := t_player q1 q2 q3
    exact ⟨_, q5, np, nl, ng, by rw [← e9]; exact q4, ht⟩
  rw [if_neg c1]
  by_cases c2 : a 0 &&& 31 = 2
  · rw [if_pos c2]
    obtain ⟨ov, r, th9, σ9, ρ9, q1, q2, q3, q4⟩ := g_buy (N := 3001) (τ := w.τ) (α := w.α) (th := w.th) h hB (a 1) (a 2)
    obtain ⟨o9, q5⟩ := t_buy q1 q2 q3
    exact ⟨_, q5, np, nl, ng, by rw [← e9]; exact q4, ht⟩
  rw [if_neg c2]
  by_cases c3 : a 0 &&& 31 = 3
  · rw [if_pos c3]
    obtain ⟨ov, r, th9, σ9, ρ9, q1, q2, q3, q4⟩ := g_sell (N := 3001) (τ := w.τ) (α := w.α) (th := w.th) h hB (a 1) (a 2)
    obtain ⟨o9, q5⟩ := t_sell q1 q2 q3
    exact ⟨_, q5, np, nl, ng, by rw [← e9]; exact q4, ht⟩
  rw [if_neg c3]
  by_cases c4 : a 0 &&& 31 = 4
  · rw [if_pos c4]
    obtain ⟨ov, r, th9, σ9, ρ9, q1, q2, q3, q4⟩ := g_borrow (N := 3001) (τ := w.τ) (α := w.α) (th := w.th) h hB hN (a 1) (a 2) (a 3) (a 4)
    obtain ⟨o9, q5⟩ := t_borrow q1 q2 q3
    obtain ⟨np9, nl9, ng9, g1, g2, g3, q4⟩ := q4
    exact ⟨_, q5, np9, nl9, ng9, by rw [← e9]; exact q4, ht.mono g1 g2 g3⟩
  rw [if_neg c4]
  by_cases c5 : a 0 &&& 31 = 5
  · rw [if_pos c5]
    obtain ⟨ov, r, th9, σ9, ρ9, q1, q2, q3, q4⟩ := g_repay (N := 3001) (τ := w.τ) (α := w.α) (th := w.th) h hB (a 1) (a 2)
    obtain ⟨o9, q5⟩ := t_repay q1 q2 q3
    exact ⟨_, q5, np, nl, ng, by rw [← e9]; exact q4, ht⟩
  rw [if_neg c5]
  by_cases c6 : a 0 &&& 31 = 6
  · rw [if_pos c6]
    obtain ⟨ov, r, th9, σ9, ρ9, q1, q2, q3, q4⟩ := g_loan (N := 3001) (τ := w.τ) (α := w.α) (th := w.th) h hB (a 1) (a 2)
    obtain ⟨o9, q5⟩ := t_loan q1 q2 q3
    exact ⟨_, q5, np, nl, ng, by rw [← e9]; exact q4, ht⟩
  rw [if_neg c6]
  by_cases c7 : a 0 &&& 31 = 7
  · rw [if_pos c7]
    obtain ⟨ov, r, th9, σ9, ρ9, q1, q2, q3, q4⟩ := g_begin (N := 3001) (τ := w.τ) (α := w.α) (th := w.th) h hB (a 1) (a 2) (a 3) (a 4) (a 5) (a 6)
    obtain ⟨o9, q5⟩ := t_begin q1 q2 q3
    obtain ⟨np9, nl9, ng9, g1, g2, g3, q4⟩ := q4
    exact ⟨_, q5, np9, nl9, ng9, by rw [← e9]; exact q4, ht.mono g1 g2 g3⟩
  rw [if_neg c7]
  by_cases c8 : a 0 &&& 31 = 8
  · rw [if_pos c8]
    obtain ⟨ov, r, th9, σ9, ρ9, q1, q2, q3, q4⟩ := g_press (N := 3001) (τ := w.τ) (α := w.α) (th := w.th) h hB (a 1)
    obtain ⟨o9, q5⟩ := t_press q1 q2 q3
    exact ⟨_, q5, np, nl, ng, by rw [← e9]; exact q4, ht⟩
  rw [if_neg c8]
  by_cases c9 : a 0 &&& 31 = 9
  · rw [if_pos c9]
    obtain ⟨ov, r, th9, σ9, ρ9, q1, q2, q3, q4⟩ := g_put (N := 3001) (τ := w.τ) (α := w.α) (th := w.th) h hB (a 1) (a 2) (a 3)
    obtain ⟨o9, q5⟩ := t_put q1 q2 q3
    exact ⟨_, q5, np, nl, ng, by rw [← e9]; exact q4, ht⟩
  rw [if_neg c9]
  by_cases c10 : a 0 &&& 31 = 10
  · rw [if_pos c10]
    obtain ⟨ov, r, th9, σ9, ρ9, q1, q2, q3, q4⟩ := g_steal (N := 3001) (τ := w.τ) (α := w.α) (th := w.th) h hB (a 1) (a 2) (a 3)
    obtain ⟨o9, q5⟩ := t_steal q1 q2 q3
    exact ⟨_, q5, np, nl, ng, by rw [← e9]; exact q4, ht⟩
  rw [if_neg c10]
  by_cases c11 : a 0 &&& 31 = 11
  · rw [if_pos c11]
    obtain ⟨ov, r, th9, σ9, ρ9, q1, q2, q3, q4⟩ := g_end (N := 3001) (τ := w.τ) (α := w.α) (th := w.th) h hB hN (a 1) (a 2)
    obtain ⟨o9, q5⟩ := t_end q1 q2 q3
    exact ⟨_, q5, np, nl, ng, by rw [← e9]; exact q4, ht⟩
  rw [if_neg c11]
  by_cases c12 : a 0 &&& 31 = 12
  · rw [if_pos c12]
    obtain ⟨ov, r, th9, σ9, ρ9, q1, q2, q3, q4⟩ := g_game (N := 3001) (τ := w.τ) (α := w.α) (th := w.th) h hB (a 1) (a 2)
    obtain ⟨o9, q5⟩ := t_game q1 q2 q3
    exact ⟨_, q5, np, nl, ng, by rw [← e9]; exact q4, ht⟩
  rw [if_neg c12]
  by_cases c13 : a 0 &&& 31 = 13
  · rw [if_pos c13]
    obtain ⟨ov, r, th9, σ9, ρ9, q1, q2, q3, q4⟩ := g_pass (N := 3001) (τ := w.τ) (α := w.α) (th := w.th) h hB (by omega) (by omega) (a 1)
    obtain ⟨o9, q5⟩ := t_pass q1 q2 q3
    exact ⟨_, q5, np, nl, ng, by rw [← e9]; exact q4, ht⟩
  rw [if_neg c13]
  by_cases c14 : a 0 &&& 31 = 14
  · rw [if_pos c14]
    obtain ⟨ov, r, th9, σ9, ρ9, q1, q2, q3, q4⟩ := g_count (N := 3001) (τ := w.τ) (α := w.α) (th := w.th) h hN (a 1)
    obtain ⟨o9, q5⟩ := t_count q1 q2 q3
    exact ⟨_, q5, np, nl, ng, by rw [← e9]; exact q4, ht⟩
  rw [if_neg c14]
  by_cases c15 : a 0 &&& 31 = 15
  · rw [if_pos c15]
    obtain ⟨ov, r, th9, τ9, α9, q1, q2, q3, q4⟩ := g_foresee (N := 3001) (α := w.α) (th := w.th) h ht hB (by omega) (by omega) (a 1) (a 2)
    obtain ⟨o9, q5⟩ := t_foresee q1 q2 q3
    exact ⟨_, q5, np, nl, ng, h2, q4⟩
  rw [if_neg c15]
  by_cases c16 : a 0 &&& 31 = 16
  · rw [if_pos c16]
    obtain ⟨ov, r, th9, σ9, ρ9, q1, q2, q3, q4⟩ := g_leader (N := 3001) (τ := w.τ) (α := w.α) (th := w.th) h hB hN (a 1)
    obtain ⟨o9, q5⟩ := t_leader q1 q2 q3
    exact ⟨_, q5, np, nl, ng, by rw [← e9]; exact q4, ht⟩
  rw [if_neg c16]
  by_cases c17 : a 0 &&& 31 = 17
  · rw [if_pos c17]
    obtain ⟨ov, r, th9, σ9, ρ9, q1, q2, q3, q4⟩ := g_needs (N := 3001) (τ := w.τ) (α := w.α) (th := w.th) h hB hN (a 1) (a 2)
    obtain ⟨o9, q5⟩ := t_needs q1 q2 q3
    exact ⟨_, q5, np, nl, ng, by rw [← e9]; exact q4, ht⟩
  rw [if_neg c17]
  by_cases c18 : a 0 &&& 31 = 18
  · rw [if_pos c18]
    exact ⟨_, g_mean h (by omega) hN, np, nl, ng, h2, ht⟩
  rw [if_neg c18]
  by_cases c19 : a 0 &&& 31 = 19
  · rw [if_pos c19]
    exact ⟨_, g_digest h hN, np, nl, ng, h2, ht⟩
  rw [if_neg c19]
  exact ⟨w, rfl, np, nl, ng, h2, ht⟩
