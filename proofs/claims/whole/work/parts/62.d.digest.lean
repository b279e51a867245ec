/-! ===== the digest ===== -/
def dg (h : Nat → Int32) (k : Nat) (d : Int64) : Int64 := d * 31 + (h k).toInt64
def dgP (σ : mSt) (p : Nat) (d : Int64) : Int64 := itr (dg (plT σ p)) 8 d
def dgL (σ : mSt) (k : Nat) (d : Int64) : Int64 := itr (dg (loT σ k)) 5 d
def dgG (σ : mSt) (g : Nat) (d : Int64) : Int64 := itr (dg (gaT σ g)) 11 d
def dgA (np nl ng : Nat) (σ : mSt) : Int64 := itr (dgG σ) ng (itr (dgL σ) nl (itr (dgP σ) np (itr (dg (coT σ)) 11 509)))
theorem x_dP {N np nl ng B : Nat} {σ τ ρ : mSt} {d a : Int64} (h : Iv np nl ng B 16 σ ρ) (hN : 100 ≤ N) : f_X5_digestPlayers N σ τ d = some (itr (dgP σ) np d, σ, τ) := by
  have hp8 := h.hp
  unfold f_X5_digestPlayers
  refine itr_e (F := fun n s i => f_X5_digestPlayers_5 N d n σ τ s i) (E := fun s => some (s, σ, τ)) (st := dgP σ) (M := np) (fun n k s hk => ?_) (fun n s => ?_) (by omega) d
  · show f_X5_digestPlayers_5 N d (n + 1) σ τ s (nI k) = f_X5_digestPlayers_5 N d n σ τ (dgP σ k s) (nI (k + 1))
    rw [f_X5_digestPlayers_5, h.c21]
    simp only [leF rfl hk (show np < 1000 by omega), ↓reduceIte]
    refine itr_e (F := fun m s i => f_X5_digestPlayers_20 N d (fun σ τ v3 v5 => f_X5_digestPlayers_5 N d n σ τ v3 v5) m σ τ s (nI k) i) (E := fun s => f_X5_digestPlayers_5 N d n σ τ s (nI (k + 1))) (st := dg (plT σ k)) (M := 8) (fun m j s hj => ?_) (fun m s => ?_) (by omega) s
    · show f_X5_digestPlayers_20 N d _ (m + 1) σ τ s (nI k) (nI j) = f_X5_digestPlayers_20 N d _ m σ τ (dg (plT σ k) j s) (nI k) (nI (j + 1))
      rw [f_X5_digestPlayers_20, plT_1 hN hp8 h.c21 hk hj]
      simp only [leF (n := 8) (c := 8) rfl hj (by decide), ↓reduceIte, bS, oL, nI_1]
      rfl
    · show f_X5_digestPlayers_20 N d _ (m + 1) σ τ s (nI k) 8 = _
      rw [f_X5_digestPlayers_20, if_pos (Int32.le_refl _), nI_1]
  · show f_X5_digestPlayers_5 N d (n + 1) σ τ s (nI np) = _
    rw [f_X5_digestPlayers_5, h.c21, if_pos (Int32.le_refl _)]
theorem x_dL {N np nl ng B : Nat} {σ τ ρ : mSt} {d : Int64} (h : Iv np nl ng B 16 σ ρ) (hN : 100 ≤ N) : f_X5_digestLoans N σ τ d = some (itr (dgL σ) nl d, σ, τ) := by
  have hl8 := h.hl
  unfold f_X5_digestLoans
  refine itr_e (F := fun n s i => f_X5_digestLoans_5 N d n σ τ s i) (E := fun s => some (s, σ, τ)) (st := dgL σ) (M := nl) (fun n k s hk => ?_) (fun n s => ?_) (by omega) d
  · show f_X5_digestLoans_5 N d (n + 1) σ τ s (nI k) = f_X5_digestLoans_5 N d n σ τ (dgL σ k s) (nI (k + 1))
    rw [f_X5_digestLoans_5, h.c22]
    simp only [leF rfl hk (show nl < 1000 by omega), ↓reduceIte]
    refine itr_e (F := fun m s i => f_X5_digestLoans_20 N d (fun σ τ v3 v5 => f_X5_digestLoans_5 N d n σ τ v3 v5) m σ τ s (nI k) i) (E := fun s => f_X5_digestLoans_5 N d n σ τ s (nI (k + 1))) (st := dg (loT σ k)) (M := 5) (fun m j s hj => ?_) (fun m s => ?_) (by omega) s
    · show f_X5_digestLoans_20 N d _ (m + 1) σ τ s (nI k) (nI j) = f_X5_digestLoans_20 N d _ m σ τ (dg (loT σ k) j s) (nI k) (nI (j + 1))
      rw [f_X5_digestLoans_20, loT_1 hl8 h.c22 hk hj]
      simp only [leF (n := 5) (c := 5) rfl hj (by decide), ↓reduceIte, bS, oL, nI_1]
      rfl
    · show f_X5_digestLoans_20 N d _ (m + 1) σ τ s (nI k) 5 = _
      rw [f_X5_digestLoans_20, if_pos (Int32.le_refl _), nI_1]
  · show f_X5_digestLoans_5 N d (n + 1) σ τ s (nI nl) = _
    rw [f_X5_digestLoans_5, h.c22, if_pos (Int32.le_refl _)]
theorem x_dG {N np nl ng B : Nat} {σ τ ρ : mSt} {d : Int64} (h : Iv np nl ng B 16 σ ρ) (hN : 100 ≤ N) : f_X5_digestGames N σ τ d = some (itr (dgG σ) ng d, σ, τ) := by
  have hg8 := h.hg
  unfold f_X5_digestGames
  refine itr_e (F := fun n s i => f_X5_digestGames_5 N d n σ τ s i) (E := fun s => some (s, σ, τ)) (st := dgG σ) (M := ng) (fun n k s hk => ?_) (fun n s => ?_) (by omega) d
  · show f_X5_digestGames_5 N d (n + 1) σ τ s (nI k) = f_X5_digestGames_5 N d n σ τ (dgG σ k s) (nI (k + 1))
    rw [f_X5_digestGames_5, h.c23]
    simp only [leF rfl hk (show ng < 1000 by omega), ↓reduceIte]
    refine itr_e (F := fun m s i => f_X5_digestGames_20 N d (fun σ τ v3 v5 => f_X5_digestGames_5 N d n σ τ v3 v5) m σ τ s (nI k) i) (E := fun s => f_X5_digestGames_5 N d n σ τ s (nI (k + 1))) (st := dg (gaT σ k)) (M := 11) (fun m j s hj => ?_) (fun m s => ?_) (by omega) s
    · show f_X5_digestGames_20 N d _ (m + 1) σ τ s (nI k) (nI j) = f_X5_digestGames_20 N d _ m σ τ (dg (gaT σ k) j s) (nI k) (nI (j + 1))
      rw [f_X5_digestGames_20, gaT_1 hg8 h.c23 hk hj]
      simp only [leF (n := 11) (c := 11) rfl hj (by decide), ↓reduceIte, bS, oL, nI_1]
      rfl
    · show f_X5_digestGames_20 N d _ (m + 1) σ τ s (nI k) 11 = _
      rw [f_X5_digestGames_20, if_pos (Int32.le_refl _), nI_1]
  · show f_X5_digestGames_5 N d (n + 1) σ τ s (nI ng) = _
    rw [f_X5_digestGames_5, h.c23, if_pos (Int32.le_refl _)]
theorem x_digest {N np nl ng B : Nat} {σ τ ρ : mSt} (h : Iv np nl ng B 16 σ ρ) (hN : 100 ≤ N) : f_X5_digest N σ τ = some (dgA np nl ng σ, σ, τ) := by
  unfold f_X5_digest
  refine itr_e (F := fun n s i => f_X5_digest_6 N n σ τ s i) (E := fun s => some (itr (dgG σ) ng (itr (dgL σ) nl (itr (dgP σ) np s)), σ, τ)) (st := dg (coT σ)) (M := 11) (fun n k s hk => ?_) (fun n s => ?_) (by omega) 509
  · show f_X5_digest_6 N (n + 1) σ τ s (nI k) = f_X5_digest_6 N n σ τ (dg (coT σ) k s) (nI (k + 1))
    rw [f_X5_digest_6, coT_1 hN hk]
    simp only [leF (n := 11) (c := 11) rfl hk (by decide), ↓reduceIte, bS, oL, nI_1]
    rfl
  · show f_X5_digest_6 N (n + 1) σ τ s 11 = _
    rw [f_X5_digest_6, if_pos (Int32.le_refl _), x_dP (a := s) h hN]
    simp only [bS]
    rw [x_dL h hN]
    simp only [bS]
    rw [x_dG h hN]
    simp only [bS]
theorem y_digest {N np nl ng B : Nat} {σ ρ α : mSt} {th : Int32} (h : Iv np nl ng B 16 σ ρ) (hN : 100 ≤ N) : f_X7_digest N th ρ α = some (dgA np nl ng σ, 0, ρ, α) := by
  have hp8 := h.hp
  have hl8 := h.hl
  have hg8 := h.hg
  unfold f_X7_digest
  have eG : ∀ d, f_X7_digest_137 N 17 0 ρ α d 0 = some (itr (dgG σ) ng d, 0, ρ, α) := by
    intro d
    refine itr_e (F := fun n s i => f_X7_digest_137 N n 0 ρ α s i) (E := fun s => some (s, 0, ρ, α)) (st := dgG σ) (M := ng) (fun n k s hk => ?_) (fun n s => ?_) (by omega) d
    · show f_X7_digest_137 N (n + 1) 0 ρ α s (nI k) = f_X7_digest_137 N n 0 ρ α (dgG σ k s) (nI (k + 1))
      rw [f_X7_digest_137, h.d22]
      simp only [leF rfl hk (show ng < 1000 by omega), ↓reduceIte]
      refine itr_e (F := fun m s i => f_X7_digest_151 N (fun th ρ α v1 v3 => f_X7_digest_137 N n th ρ α v1 v3) m 0 ρ α s (nI k) i) (E := fun s => f_X7_digest_137 N n 0 ρ α s (nI (k + 1))) (st := dg (gaT σ k)) (M := 11) (fun m j s hj => ?_) (fun m s => ?_) (by decide) s
      · show f_X7_digest_151 N _ (m + 1) 0 ρ α s (nI k) (nI j) = f_X7_digest_151 N _ m 0 ρ α (dg (gaT σ k) j s) (nI k) (nI (j + 1))
        rw [f_X7_digest_151, gaT_2 h hk hj]
        simp only [leF (n := 11) (c := 11) rfl hj (by decide), ↓reduceIte, bS, nI_1]
        rfl
      · show f_X7_digest_151 N _ (m + 1) 0 ρ α s (nI k) 11 = _
        rw [f_X7_digest_151, if_pos (Int32.le_refl _), nI_1]
    · show f_X7_digest_137 N (n + 1) 0 ρ α s (nI ng) = _
      rw [f_X7_digest_137, h.d22, if_pos (Int32.le_refl _)]
  have eL : ∀ d, f_X7_digest_88 N 21 0 ρ α d 0 = some (itr (dgG σ) ng (itr (dgL σ) nl d), 0, ρ, α) := by
    intro d
    refine itr_e (F := fun n s i => f_X7_digest_88 N n 0 ρ α s i) (E := fun s => some (itr (dgG σ) ng s, 0, ρ, α)) (st := dgL σ) (M := nl) (fun n k s hk => ?_) (fun n s => ?_) (by omega) d
    · show f_X7_digest_88 N (n + 1) 0 ρ α s (nI k) = f_X7_digest_88 N n 0 ρ α (dgL σ k s) (nI (k + 1))
      rw [f_X7_digest_88, h.d23]
      simp only [leF rfl hk (show nl < 1000 by omega), ↓reduceIte]
      refine itr_e (F := fun m s i => f_X7_digest_102 N (fun th ρ α v1 v3 => f_X7_digest_88 N n th ρ α v1 v3) m 0 ρ α s (nI k) i) (E := fun s => f_X7_digest_88 N n 0 ρ α s (nI (k + 1))) (st := dg (loT σ k)) (M := 5) (fun m j s hj => ?_) (fun m s => ?_) (by decide) s
      · show f_X7_digest_102 N _ (m + 1) 0 ρ α s (nI k) (nI j) = f_X7_digest_102 N _ m 0 ρ α (dg (loT σ k) j s) (nI k) (nI (j + 1))
        rw [f_X7_digest_102, loT_2 h hk hj]
        simp only [leF (n := 5) (c := 5) rfl hj (by decide), ↓reduceIte, bS, nI_1]
        rfl
      · show f_X7_digest_102 N _ (m + 1) 0 ρ α s (nI k) 5 = _
        rw [f_X7_digest_102, if_pos (Int32.le_refl _), nI_1]
    · show f_X7_digest_88 N (n + 1) 0 ρ α s (nI nl) = _
      rw [f_X7_digest_88, h.d23, if_pos (Int32.le_refl _), eG]
  have eP : ∀ d, f_X7_digest_38 N 9 0 ρ α d 0 = some (itr (dgG σ) ng (itr (dgL σ) nl (itr (dgP σ) np d)), 0, ρ, α) := by
    intro d
    refine itr_e (F := fun n s i => f_X7_digest_38 N n 0 ρ α s i) (E := fun s => some (itr (dgG σ) ng (itr (dgL σ) nl s), 0, ρ, α)) (st := dgP σ) (M := np) (fun n k s hk => ?_) (fun n s => ?_) (by omega) d
    · show f_X7_digest_38 N (n + 1) 0 ρ α s (nI k) = f_X7_digest_38 N n 0 ρ α (dgP σ k s) (nI (k + 1))
      rw [f_X7_digest_38, h.d21]
      simp only [leF rfl hk (show np < 1000 by omega), ↓reduceIte]
      refine itr_e (F := fun m s i => f_X7_digest_52 N (fun th ρ α v1 v3 => f_X7_digest_38 N n th ρ α v1 v3) m 0 ρ α s (nI k) i) (E := fun s => f_X7_digest_38 N n 0 ρ α s (nI (k + 1))) (st := dg (plT σ k)) (M := 8) (fun m j s hj => ?_) (fun m s => ?_) (by decide) s
      · show f_X7_digest_52 N _ (m + 1) 0 ρ α s (nI k) (nI j) = f_X7_digest_52 N _ m 0 ρ α (dg (plT σ k) j s) (nI k) (nI (j + 1))
        rw [f_X7_digest_52, plT_2 h hN hk hj]
        simp only [leF (n := 8) (c := 8) rfl hj (by decide), ↓reduceIte, bS, nI_1]
        rfl
      · show f_X7_digest_52 N _ (m + 1) 0 ρ α s (nI k) 8 = _
        rw [f_X7_digest_52, if_pos (Int32.le_refl _), nI_1]
    · show f_X7_digest_38 N (n + 1) 0 ρ α s (nI np) = _
      rw [f_X7_digest_38, h.d21, if_pos (Int32.le_refl _), eL]
  refine itr_e (F := fun n s i => f_X7_digest_11 N n 0 ρ α s i) (E := fun s => some (itr (dgG σ) ng (itr (dgL σ) nl (itr (dgP σ) np s)), 0, ρ, α)) (st := dg (coT σ)) (M := 11) (fun n k s hk => ?_) (fun n s => ?_) (by decide) 509
  · show f_X7_digest_11 N (n + 1) 0 ρ α s (nI k) = f_X7_digest_11 N n 0 ρ α (dg (coT σ) k s) (nI (k + 1))
    rw [f_X7_digest_11, coT_2 h hN hk]
    simp only [leF (n := 11) (c := 11) rfl hk (by decide), ↓reduceIte, bS, nI_1]
    rfl
  · show f_X7_digest_11 N (n + 1) 0 ρ α s 11 = _
    rw [f_X7_digest_11, if_pos (Int32.le_refl _), eP]
theorem g_digest {N np nl ng B : Nat} {w : lW} (h : Iv np nl ng B 16 w.σ w.ρ) (hN : 100 ≤ N) : s_digest N w = some (0, w.ρ, w.α, w.σ, w.τ, w.o) := by
  unfold s_digest
  rw [x_digest h hN, y_digest h hN]
  simp only [bS]
  rw [if_pos trivial]
