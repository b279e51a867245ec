def iσ : mSt := fun f _ => if f = 9 then -1 else if f = 17 then -1 else if f = 25 then 100000 else if f = 30 then -1 else if f = 31 then -1 else 0
/-- the state under way: p players, l loans, g games are made -/
def mI (y : Nat → ClassId) (ad : Nat → Nat) (p l g : Nat) (c : Nat) : va_E :=
  if c = 0 then iT (.ref (ad 1)) (.ref (ad 2)) (.ref (ad 3)) 100000 (-1) (-1)
  else if c = 1 then .inl (y 3, (8, .inr (.inr (.inr (.inr (fun k => if k < p then some (ad (4 + k)) else none))))))
  else if c = 2 then .inl (y 2, (20, .inr (.inr (.inr (.inr (fun k => if k < l then some (ad (12 + k)) else none))))))
  else if c = 3 then .inl (y 1, (16, .inr (.inr (.inr (.inr (fun k => if k < g then some (ad (32 + 3 * k)) else none))))))
  else if c < 12 then iP
  else if c < 32 then iL
  else if (c - 32) % 3 = 0 then iG (ad (c + 1)) (ad (c + 2))
  else iS
theorem mI_ad {y : Nat → ClassId} {ad ad' : Nat → Nat} {p l g c : Nat} (h : ∀ j, j < 4 → ad j = ad' j) (hp : ∀ k, k < p → ad (4 + k) = ad' (4 + k)) (hl : ∀ k, k < l → ad (12 + k) = ad' (12 + k)) (hg : ∀ k, k < g → ad (32 + 3 * k) = ad' (32 + 3 * k)) (hc : 32 ≤ c → (c - 32) % 3 = 0 → ad (c + 1) = ad' (c + 1) ∧ ad (c + 2) = ad' (c + 2)) : mI y ad p l g c = mI y ad' p l g c := by
  unfold mI
  by_cases h0 : c = 0
  · rw [if_pos h0, if_pos h0, h 1 (by omega), h 2 (by omega), h 3 (by omega)]
  rw [if_neg h0, if_neg h0]
  by_cases h1 : c = 1
  · rw [if_pos h1, if_pos h1]
    congr 7
    funext k
    by_cases hk : k < p
    · rw [if_pos hk, if_pos hk, hp k hk]
    · rw [if_neg hk, if_neg hk]
  rw [if_neg h1, if_neg h1]
  by_cases h2 : c = 2
  · rw [if_pos h2, if_pos h2]
    congr 7
    funext k
    by_cases hk : k < l
    · rw [if_pos hk, if_pos hk, hl k hk]
    · rw [if_neg hk, if_neg hk]
  rw [if_neg h2, if_neg h2]
  by_cases h3 : c = 3
  · rw [if_pos h3, if_pos h3]
    congr 7
    funext k
    by_cases hk : k < g
    · rw [if_pos hk, if_pos hk, hg k hk]
    · rw [if_neg hk, if_neg hk]
  rw [if_neg h3, if_neg h3]
  by_cases h4 : c < 12
  · rw [if_pos h4, if_pos h4]
  rw [if_neg h4, if_neg h4]
  by_cases h5 : c < 32
  · rw [if_pos h5, if_pos h5]
  rw [if_neg h5, if_neg h5]
  by_cases h6 : (c - 32) % 3 = 0
  · rw [if_pos h6, if_pos h6, (hc (by omega) h6).1, (hc (by omega) h6).2]
  · rw [if_neg h6, if_neg h6]
/-- where a cell of the state lies in the order of their making -/
def iPi (c : Nat) : Nat := if c < 32 then c else if c < 48 then 32 + 3 * (c - 32) else 32 + 3 * ((c - 48) / 2) + 1 + (c - 48) % 2
theorem iPi_inj : ∀ a b, a < 80 → b < 80 → iPi a = iPi b → a = b := by
  intro a b ha hb h
  unfold iPi at h
  by_cases h1 : a < 32 <;> by_cases h2 : b < 32 <;> by_cases h3 : a < 48 <;> by_cases h4 : b < 48 <;> simp only [h1, h2, h3, h4, if_true, if_false] at h <;> omega
theorem iPi_lt {c : Nat} (h : c < 80) : iPi c < 80 := by
  unfold iPi
  by_cases h1 : c < 32
  · rw [if_pos h1]; omega
  · rw [if_neg h1]
    by_cases h2 : c < 48
    · rw [if_pos h2]; omega
    · rw [if_neg h2]; omega
theorem mI_P {y : Nat → ClassId} {ad : Nat → Nat} {p l g c : Nat} (h1 : 4 ≤ c) (h2 : c < 12) : mI y ad p l g c = iP := by
  unfold mI
  rw [if_neg (by omega), if_neg (by omega), if_neg (by omega), if_neg (by omega), if_pos h2]
theorem mI_L {y : Nat → ClassId} {ad : Nat → Nat} {p l g c : Nat} (h1 : 12 ≤ c) (h2 : c < 32) : mI y ad p l g c = iL := by
  unfold mI
  rw [if_neg (by omega), if_neg (by omega), if_neg (by omega), if_neg (by omega), if_neg (by omega), if_pos h2]
theorem mI_G {y : Nat → ClassId} {ad : Nat → Nat} {p l g c : Nat} (h1 : 32 ≤ c) (h2 : (c - 32) % 3 = 0) : mI y ad p l g c = iG (ad (c + 1)) (ad (c + 2)) := by
  unfold mI
  rw [if_neg (by omega), if_neg (by omega), if_neg (by omega), if_neg (by omega), if_neg (by omega), if_neg (by omega), if_pos h2]
theorem mI_S {y : Nat → ClassId} {ad : Nat → Nat} {p l g c : Nat} (h1 : 32 ≤ c) (h2 : ¬ (c - 32) % 3 = 0) : mI y ad p l g c = iS := by
  unfold mI
  rw [if_neg (by omega), if_neg (by omega), if_neg (by omega), if_neg (by omega), if_neg (by omega), if_neg (by omega), if_neg h2]
theorem iArr {f : Nat → Option Nat} {F : Nat → Nat} {i : Nat} (hi : i < 2 ^ 31) (hf : f = fun k => if k < i then some (F k) else none) : va_up f (nI i).toNatClampNeg (some (F i)) = fun k => if k < i + 1 then some (F k) else none := by
  subst hf
  rw [nI_clamp hi]
  funext k
  by_cases h : k = i
  · subst h; rw [va_up_self, if_pos (by omega)]
  · rw [va_up_ne _ _ h]
    by_cases h2 : k < i
    · rw [if_pos h2, if_pos (by omega)]
    · rw [if_neg h2, if_neg (by omega)]
theorem mI_putP {y : Nat → ClassId} {ad : Nat → Nat} {i n : Nat} (hi : i < 8) : ∀ c, c < n → va_up (mI y ad i 0 0) 1 (.inl (y 3, 8, .inr (.inr (.inr (.inr (va_up (fun k => if k < i then some (ad (4 + k)) else none) (nI i).toNatClampNeg (some (ad (4 + i))))))))) c = mI y ad (i + 1) 0 0 c := by
  intro c _
  by_cases h1 : c = 1
  · subst h1
    rw [va_up_self, iArr (F := fun k => ad (4 + k)) (by omega) rfl]
    rfl
  · rw [va_up_ne _ _ h1]
    unfold mI
    by_cases h0 : c = 0
    · rw [if_pos h0, if_pos h0]
    · rw [if_neg h0, if_neg h0, if_neg h1, if_neg h1]
theorem mI_putL {y : Nat → ClassId} {ad : Nat → Nat} {i n : Nat} (hi : i < 20) : ∀ c, c < n → va_up (mI y ad 8 i 0) 2 (.inl (y 2, 20, .inr (.inr (.inr (.inr (va_up (fun k => if k < i then some (ad (12 + k)) else none) (nI i).toNatClampNeg (some (ad (12 + i))))))))) c = mI y ad 8 (i + 1) 0 c := by
  intro c _
  by_cases h1 : c = 2
  · subst h1
    rw [va_up_self, iArr (F := fun k => ad (12 + k)) (by omega) rfl]
    rfl
  · rw [va_up_ne _ _ h1]
    unfold mI
    by_cases h0 : c = 0
    · rw [if_pos h0, if_pos h0]
    · rw [if_neg h0, if_neg h0]
      by_cases h2 : c = 1
      · rw [if_pos h2, if_pos h2]
      · rw [if_neg h2, if_neg h2, if_neg h1, if_neg h1]
theorem mI_putG {y : Nat → ClassId} {ad : Nat → Nat} {i n : Nat} (hi : i < 16) : ∀ c, c < n → va_up (mI y ad 8 20 i) 3 (.inl (y 1, 16, .inr (.inr (.inr (.inr (va_up (fun k => if k < i then some (ad (32 + 3 * k)) else none) (nI i).toNatClampNeg (some (ad (32 + 3 * i))))))))) c = mI y ad 8 20 (i + 1) c := by
  intro c _
  by_cases h1 : c = 3
  · subst h1
    rw [va_up_self, iArr (F := fun k => ad (32 + 3 * k)) (by omega) rfl]
    rfl
  · rw [va_up_ne _ _ h1]
    unfold mI
    by_cases h0 : c = 0
    · rw [if_pos h0, if_pos h0]
    · rw [if_neg h0, if_neg h0]
      by_cases h2 : c = 1
      · rw [if_pos h2, if_pos h2]
      · rw [if_neg h2, if_neg h2]
        by_cases h3 : c = 2
        · rw [if_pos h3, if_pos h3]
        · rw [if_neg h3, if_neg h3, if_neg h1, if_neg h1]
theorem mI_newP {y : Nat → ClassId} {ad : Nat → Nat} {i q : Nat} (hi : i < 8) : ∀ c, c < 4 + i + 1 → va_up (mI y ad i 0 0) (4 + i) iP c = mI y (va_up ad (4 + i) q) i 0 0 c := by
  intro c hc
  by_cases h : c = 4 + i
  · subst h; rw [va_up_self, mI_P (by omega) (by omega)]
  · rw [va_up_ne _ _ h]
    exact mI_ad (fun j hj => (va_up_ne _ _ (by omega)).symm) (fun k hk => (va_up_ne _ _ (by omega)).symm) (fun k hk => absurd hk (by omega)) (fun k hk => absurd hk (by omega)) (fun h1 _ => absurd h1 (by omega))
theorem mI_newL {y : Nat → ClassId} {ad : Nat → Nat} {i q : Nat} (hi : i < 20) : ∀ c, c < 12 + i + 1 → (if c = 12 + i then iL else va_up (mI y ad 8 i 0) (12 + i) iL0 c) = mI y (va_up ad (12 + i) q) 8 i 0 c := by
  intro c hc
  by_cases h : c = 12 + i
  · subst h; rw [if_pos rfl, mI_L (by omega) (by omega)]
  · rw [if_neg h, va_up_ne _ _ h]
    exact mI_ad (fun j hj => (va_up_ne _ _ (by omega)).symm) (fun k hk => (va_up_ne _ _ (by omega)).symm) (fun k hk => (va_up_ne _ _ (by omega)).symm) (fun k hk => absurd hk (by omega)) (fun h1 _ => absurd h1 (by omega))
theorem iAd3 {ad adg : Nat → Nat} {i q : Nat} (hq : adg 0 = q) : (∀ j, j < 32 + 3 * i → mAd (va_up ad (32 + 3 * i) q) adg (32 + 3 * i + 1) j = ad j) ∧ ∀ j, j < 3 → mAd (va_up ad (32 + 3 * i) q) adg (32 + 3 * i + 1) (32 + 3 * i + j) = adg j := by
  refine ⟨fun j hj => ?_, fun j hj => ?_⟩
  · unfold mAd
    rw [if_pos (by omega), va_up_ne _ _ (by omega)]
  · unfold mAd
    by_cases h : j = 0
    · subst h; rw [if_pos (by omega), Nat.add_zero, va_up_self]; exact hq.symm
    · rw [if_neg (by omega), show 32 + 3 * i + j - (32 + 3 * i + 1) + 1 = j by omega]
theorem mI_newG {y : Nat → ClassId} {ad adg : Nat → Nat} {i q : Nat} (hi : i < 16) (hq : adg 0 = q) : ∀ c, c < 32 + 3 * i + 1 + (3 - 1) → mEd (va_up (mI y ad 8 20 i) (32 + 3 * i) iG0) (32 + 3 * i) (32 + 3 * i + 1) (mGE adg) c = mI y (mAd (va_up ad (32 + 3 * i) q) adg (32 + 3 * i + 1)) 8 20 i c := by
  intro c hc
  obtain ⟨e1, e2⟩ := iAd3 (ad := ad) (i := i) hq
  generalize mAd (va_up ad (32 + 3 * i) q) adg (32 + 3 * i + 1) = A at e1 e2
  by_cases h : c < 32 + 3 * i
  · unfold mEd
    rw [if_pos (by omega), if_neg (by omega), va_up_ne _ _ (by omega)]
    exact mI_ad (fun j hj => (e1 j (by omega)).symm) (fun k hk => (e1 _ (by omega)).symm) (fun k hk => (e1 _ (by omega)).symm) (fun k hk => (e1 _ (by omega)).symm) (fun h1 h2 => ⟨(e1 _ (by omega)).symm, (e1 _ (by omega)).symm⟩)
  · obtain ⟨d, rfl⟩ : ∃ d, c = 32 + 3 * i + d := ⟨c - (32 + 3 * i), by omega⟩
    by_cases h0 : d = 0
    · subst h0
      rw [mI_G (by omega) (by omega), show 32 + 3 * i + 0 + 1 = 32 + 3 * i + 1 by omega, show 32 + 3 * i + 0 + 2 = 32 + 3 * i + 2 by omega, e2 1 (by omega), e2 2 (by omega)]
      unfold mEd
      rw [if_pos (by omega), if_pos (by omega)]
      rfl
    · rw [mI_S (by omega) (by omega)]
      unfold mEd mGE
      rw [if_neg (by omega), if_neg (by omega)]
/-- the same cells, said otherwise -/
theorem mV.as {D : va_G} {y : Nat → ClassId} {A : Nat → Prop} {s : State} {H0 H : Heap} {locs : List Loc} {n : Nat} {ad : Nat → Nat} {E E' : Nat → va_E} (V : mV D y A s H0 H locs n ad E) (h : ∀ c, c < n → E c = E' c ∨ ∃ cA z f f', E c = .inl (cA, z, .inr (.inr (.inr (.inr f)))) ∧ E' c = .inl (cA, z, .inr (.inr (.inr (.inr f')))) ∧ ∀ k, k < z → f k = f' k) : mV D y A s H0 H locs n ad E' := by
  obtain ⟨hK, hP, hD, hS, hA⟩ := V
  refine ⟨hK, fun k q hq => ?_, mD_E _ hD, hS, hA⟩
  obtain ⟨h1, rfl⟩ := mWl_of hq
  have h2 := hP k _ (mWl_get h1)
  rcases h k h1 with e | ⟨cA, z, f, f', e1, e2, e3⟩
  · rw [← e]; exact h2
  · rw [e1] at h2
    rw [e2]
    have h3 : vp_cell cA (z, .inr (.inr (.inr (.inr f)))) = vp_cell cA (z, .inr (.inr (.inr (.inr f')))) := by
      rw [vp_cell_q, vp_cell_q]
      unfold arrV
      congr 2
      funext j
      show va_rf (f j.val) = va_rf (f' j.val)
      rw [e3 j.val j.isLt]
    show H[ad k]? = some (vp_cell cA (z, .inr (.inr (.inr (.inr f')))))
    rw [← h3]
    exact h2
theorem mI_end {y : Nat → ClassId} {ad : Nat → Nat} : ∀ c, c < 80 → mI y ad 8 20 16 (iPi c) = mS y (fun k => ad (iPi k)) iσ c ∨ ∃ cA z f f', mI y ad 8 20 16 (iPi c) = .inl (cA, z, .inr (.inr (.inr (.inr f)))) ∧ mS y (fun k => ad (iPi k)) iσ c = .inl (cA, z, .inr (.inr (.inr (.inr f')))) ∧ ∀ k, k < z → f k = f' k := by
  intro c hc
  have e32 : ∀ k, k < 32 → iPi k = k := fun k hk => by unfold iPi; rw [if_pos hk]
  have eG : ∀ k, k < 16 → iPi (32 + k) = 32 + 3 * k := fun k hk => by unfold iPi; rw [if_neg (by omega), if_pos (by omega)]; omega
  have eS : ∀ k, k < 16 → ∀ j, j < 2 → iPi (48 + (2 * k + j)) = 32 + 3 * k + 1 + j := fun k hk j hj => by unfold iPi; rw [if_neg (by omega), if_neg (by omega)]; omega
  by_cases h0 : c = 0
  · subst h0
    refine Or.inl ?_
    rw [e32 0 (by omega), mS_T, e32 1 (by omega), e32 2 (by omega), e32 3 (by omega)]
    rfl
  by_cases h1 : c = 1
  · subst h1
    refine Or.inr ⟨_, _, _, _, rfl, rfl, fun k hk => ?_⟩
    show (if k < 8 then some (ad (4 + k)) else none) = some (ad (iPi (4 + k)))
    rw [if_pos hk, e32 (4 + k) (by omega)]
  by_cases h2 : c = 2
  · subst h2
    refine Or.inr ⟨_, _, _, _, rfl, rfl, fun k hk => ?_⟩
    show (if k < 20 then some (ad (12 + k)) else none) = some (ad (iPi (12 + k)))
    rw [if_pos hk, e32 (12 + k) (by omega)]
  by_cases h3 : c = 3
  · subst h3
    refine Or.inr ⟨_, _, _, _, rfl, rfl, fun k hk => ?_⟩
    show (if k < 16 then some (ad (32 + 3 * k)) else none) = some (ad (iPi (32 + k)))
    rw [if_pos hk, eG k hk]
  refine Or.inl ?_
  by_cases h4 : c < 12
  · obtain ⟨d, rfl⟩ : ∃ d, c = 4 + d := ⟨c - 4, by omega⟩
    rw [e32 _ (by omega), mI_P (by omega) h4, mS_P y _ iσ (by omega)]
    rfl
  by_cases h5 : c < 32
  · obtain ⟨d, rfl⟩ : ∃ d, c = 12 + d := ⟨c - 12, by omega⟩
    rw [e32 _ h5, mI_L (by omega) h5, mS_L y _ iσ (by omega)]
    rfl
  by_cases h6 : c < 48
  · obtain ⟨d, rfl⟩ : ∃ d, c = 32 + d := ⟨c - 32, by omega⟩
    rw [eG d (by omega), mI_G (by omega) (by omega), mS_G y _ iσ (by omega), eS d (by omega) 1 (by omega), show 48 + 2 * d = 48 + (2 * d + 0) by omega, eS d (by omega) 0 (by omega)]
    rfl
  · obtain ⟨d, rfl⟩ : ∃ d, c = 48 + d := ⟨c - 48, by omega⟩
    rw [mI_S (by unfold iPi; rw [if_neg (by omega), if_neg (by omega)]; omega) (by unfold iPi; rw [if_neg (by omega), if_neg (by omega)]; omega), mS_S y _ iσ (by omega)]
    rfl
/-- the first cells of a state, as they come -/
abbrev iEP (y : Nat → ClassId) : va_E := .inl (y 3, 8, .inr (.inr (.inr (.inr (fun _ => none)))))
abbrev iEL (y : Nat → ClassId) : va_E := .inl (y 2, 20, .inr (.inr (.inr (.inr (fun _ => none)))))
abbrev iEG (y : Nat → ClassId) : va_E := .inl (y 1, 16, .inr (.inr (.inr (.inr (fun _ => none)))))
def iE1 (y : Nat → ClassId) (x : va_E) (c : Nat) : va_E := if c = 0 then x else iEP y
def iE2 (y : Nat → ClassId) (x : va_E) (c : Nat) : va_E := if c = 0 then x else if c = 1 then iEP y else iEL y
def iE3 (y : Nat → ClassId) (x : va_E) (c : Nat) : va_E := if c = 0 then x else if c = 1 then iEP y else if c = 2 then iEL y else iEG y
theorem iE1_p {y : Nat → ClassId} {x x0 : va_E} : ∀ c, c < 1 + 1 → va_up (va_up (fun _ => x0) 1 (iEP y)) 0 x c = iE1 y x c := fun c hc => match c, hc with
  | 0, _ => rfl
  | 1, _ => rfl
  | c + 2, h => absurd h (by omega)
theorem iE2_p {y : Nat → ClassId} {x x0 : va_E} : ∀ c, c < 1 + 1 + 1 → va_up (va_up (iE1 y x0) 2 (iEL y)) 0 x c = iE2 y x c := fun c hc => match c, hc with
  | 0, _ => rfl
  | 1, _ => rfl
  | 2, _ => rfl
  | c + 3, h => absurd h (by omega)
theorem iE3_p {y : Nat → ClassId} {x x0 : va_E} : ∀ c, c < 1 + 1 + 1 + 1 → va_up (va_up (iE2 y x0) 3 (iEG y)) 0 x c = iE3 y x c := fun c hc => match c, hc with
  | 0, _ => rfl
  | 1, _ => rfl
  | 2, _ => rfl
  | 3, _ => rfl
  | c + 4, h => absurd h (by omega)
theorem iE3_q {y : Nat → ClassId} {x x0 : va_E} : ∀ c, c < 1 + 1 + 1 + 1 → va_up (iE3 y x0) 0 x c = iE3 y x c := fun c hc => match c, hc with
  | 0, _ => rfl
  | 1, _ => rfl
  | 2, _ => rfl
  | 3, _ => rfl
  | c + 4, h => absurd h (by omega)
set_option maxHeartbeats 4000000 in
set_option maxRecDepth 100000 in
theorem c_X4_init {l : Launch} {D : va_G} {y : Nat → ClassId} {h0 : Nat} {E0 : va_E} (hE0 : E0 = iT .null .null .null 0 0 0) : mCN l yX4_init wsX4_init { frames := 3, cells := 79, slots := 440, locals := 52 } D y mXc h0 E0 80 (fun ad => mS y ad iσ) 79 440 := by
  subst hE0
  refine m_startN (cc := cX4_init) (maxL := 2) (ret := none) (by decide) rfl (Nat.le_of_ble_eq_true rfl) (fun p e s m args below meth c ls hB hnm9 V Z hl => ?_)
  obtain ⟨hx, hb, hml, hown, hts, hr, hlk⟩ := id hB
  have hl : lv_has ls 2 [(0, .ref h0)] := hl
  have loop3 : ∀ (k i : Nat), i + k = 16 → ∀ (ad : Nat → Nat) (H : Heap) (locs : List Loc) (ls : Array Slot) (cells slots : Nat), ad 0 = h0 → mV D y (mFree 1 (fun _ => h0) s.heap.size) s s.heap H locs (32 + 3 * i) ad (mI y ad 8 20 i) → lv_has ls 2 [(1, .int (nI i)), (0, .ref h0)] → cells + (3 * k + 0) ≤ 79 → slots + (16 * k + 0) ≤ 440 → W p l e { frames := 3, cells := 79, slots := 440, locals := 52 } s m args below meth c H locs cells slots (MQ below (mQN D 80 (fun ad => mS y ad iσ) h0 s.heap.size) args s 79 440 (mFree 1 (fun _ => h0) s.heap.size)) (F0 m 109 ls []) := by
    intro k
    induction k with
    | zero =>
      intro i hi ad H locs ls cells slots had V hl hcc hss
      have hi : i = 16 := by omega
      subst hi
      rw [← had] at hl
      refine lv_iload_n hx hb dX4_init_109 rfl (lv_at hl 0 rfl) ?_
      refine lv_aload_n hx hb dX4_init_110 rfl (lv_at hl 1 rfl) ?_
      refine m_getr hx hb hts hown V (fun _ h => List.mem_cons_of_mem _ (List.mem_append_left _ (List.mem_append_left _ (List.mem_append_left _ (List.mem_append_left _ (List.mem_append_right _ h)))))) (a := 0) (by omega) rfl rfl 2 (by decide) rfl (hts _ (List.mem_of_getElem? (i := 9) rfl)) rfl dX4_init_111 ?_
      refine m_alen hx hb V (a := 3) 1 (by omega) rfl rfl (v := 16) rfl dX4_init_114 ?_
      refine lv_icmp_ge (tgt := 137) hx hb dX4_init_115 (by decide) (fun h => ?_) (fun h => absurd (by decide +kernel) h)
      have V := (V.perm (n' := 80) (ad' := fun k => ad (iPi k)) (E' := fun c => mI y ad 8 20 16 (iPi c)) iPi (fun c hc => ⟨iPi_lt hc, rfl, rfl⟩) iPi_inj).as mI_end
      exact m_vretN (n' := 80) (E' := fun ad => mS y ad iσ) (sz' := 0) hx hb hr hlk V had (by omega) (by omega) dX4_init_137
    | succ k ih =>
      intro i hi ad H locs ls cells slots had V hl hcc hss
      have hi9 : i < 16 := by omega
      have hl0 := hl
      rw [← had] at hl
      refine lv_iload_n hx hb dX4_init_109 rfl (lv_at hl 0 rfl) ?_
      refine lv_aload_n hx hb dX4_init_110 rfl (lv_at hl 1 rfl) ?_
      refine m_getr hx hb hts hown V (fun _ h => List.mem_cons_of_mem _ (List.mem_append_left _ (List.mem_append_left _ (List.mem_append_left _ (List.mem_append_left _ (List.mem_append_right _ h)))))) (a := 0) (by omega) rfl rfl 2 (by decide) rfl (hts _ (List.mem_of_getElem? (i := 9) rfl)) rfl dX4_init_111 ?_
      refine m_alen hx hb V (a := 3) 1 (by omega) rfl rfl (v := 16) rfl dX4_init_114 ?_
      refine lv_icmp_ge (tgt := 137) hx hb dX4_init_115 (by decide) (fun h => absurd ((nI_leI (a := 16) (b := i) (by omega) (by omega)).mp h) (by omega)) (fun h => ?_)
      refine lv_aload_n hx hb dX4_init_118 rfl (lv_at hl 1 rfl) ?_
      refine m_getr hx hb hts hown V (fun _ h => List.mem_cons_of_mem _ (List.mem_append_left _ (List.mem_append_left _ (List.mem_append_left _ (List.mem_append_left _ (List.mem_append_right _ h)))))) (a := 0) (by omega) rfl rfl 2 (by decide) rfl (hts _ (List.mem_of_getElem? (i := 9) rfl)) rfl dX4_init_119 ?_
      refine lv_iload_n hx hb dX4_init_122 rfl (lv_at hl 0 rfl) ?_
      refine m_new (ci := 0) (fs := [.null, .null, .int 0, .int 0, .int 0, .int 0, .int 0, .int 0, .int 0, .int 0]) hx hb hts (fun _ h => List.mem_cons_of_mem _ (List.mem_append_left _ (List.mem_append_right _ h))) tyX0 tyX0_ok hown (hts _ (List.mem_of_getElem? (i := 8) rfl)) (hts _ (List.mem_of_getElem? (i := 18) rfl)) (hts _ (List.mem_of_getElem? (i := 19) rfl)) V rfl (by decide +kernel) (show cells + 1 ≤ 79 by omega) (show slots + 10 ≤ 440 by omega) dX4_init_123 (fun q1 H V => ?_)
      refine lv_dup hx hb dX4_init_126 rfl ?_
      refine m_callNN (o := 32 + 3 * i) ⟨hx, hb, hml, hown, hts⟩ (va_up_self _ _ _).symm (c_X0_init (va_up_self _ _ _)) ⟨va_cnB 0 hts ggX4_init_X0_init rfl rfl rfl (Z.1 _ (List.mem_of_getElem? (i := 3) rfl)) (hts _ (List.mem_of_getElem? (i := 19) rfl)) (by decide +kernel) ⟨Nat.le_of_ble_eq_true rfl, Nat.le_of_ble_eq_true rfl⟩, rfl, (hts _ (List.mem_of_getElem? (i := 27) rfl))⟩ mXc_ok V (by omega) (by omega) (fun U hU hW => mXc_at Z hW) hl.1 (Nat.le_of_ble_eq_true rfl) ⟨show cells + 1 + 2 ≤ 79 by omega, show slots + 10 + 6 ≤ 440 by omega⟩ dX4_init_127 (fun adg H locs hadg V => ?_)
      have hadg : adg 0 = q1 := hadg.trans (va_up_self _ _ _)
      obtain ⟨e1, e2⟩ := iAd3 (ad := ad) (i := i) hadg
      have V := V.to (mI_newG hi9 hadg)
      refine m_aast hx hb V 1 (a := 3) (b := 32 + 3 * i) (by omega) rfl rfl (by omega) (mI_G (by omega) (by omega)) rfl ⟨nI_pos' (by omega), by rw [nI_clamp (by omega)]; omega⟩ (mI_putG hi9) (congrArg Value.ref (hadg.symm.trans (e2 0 (by omega)).symm)) (congrArg Value.ref (e1 3 (by omega)).symm) dX4_init_130 (fun H locs V => ?_)
      refine lv_iinc (v := nI i + 1) (lv' := [(1, .int (nI i + 1)), (0, .ref (ad 0))]) hx hb dX4_init_131 hl (k := 0) rfl rfl (by decide) rfl (fun ls hl => ?_)
      refine lv_goto (tgt := 109) hx hb dX4_init_134 (by decide) ?_
      rw [nI_1, had] at hl
      exact ih (i + 1) (by omega) _ _ _ _ _ _ ((e1 0 (by omega)).trans had) V hl (by first | omega | (dsimp only; omega)) (by first | omega | (dsimp only; omega))
  have loop2 : ∀ (k i : Nat), i + k = 20 → ∀ (ad : Nat → Nat) (H : Heap) (locs : List Loc) (ls : Array Slot) (cells slots : Nat), ad 0 = h0 → mV D y (mFree 1 (fun _ => h0) s.heap.size) s s.heap H locs (12 + i) ad (mI y ad 8 i 0) → lv_has ls 2 [(1, .int (nI i)), (0, .ref h0)] → cells + (1 * k + 48) ≤ 79 → slots + (5 * k + 256) ≤ 440 → W p l e { frames := 3, cells := 79, slots := 440, locals := 52 } s m args below meth c H locs cells slots (MQ below (mQN D 80 (fun ad => mS y ad iσ) h0 s.heap.size) args s 79 440 (mFree 1 (fun _ => h0) s.heap.size)) (F0 m 79 ls []) := by
    intro k
    induction k with
    | zero =>
      intro i hi ad H locs ls cells slots had V hl hcc hss
      have hi : i = 20 := by omega
      subst hi
      rw [← had] at hl
      refine lv_iload_n hx hb dX4_init_79 rfl (lv_at hl 0 rfl) ?_
      refine lv_aload_n hx hb dX4_init_80 rfl (lv_at hl 1 rfl) ?_
      refine m_getr hx hb hts hown V (fun _ h => List.mem_cons_of_mem _ (List.mem_append_left _ (List.mem_append_left _ (List.mem_append_left _ (List.mem_append_left _ (List.mem_append_right _ h)))))) (a := 0) (by omega) rfl rfl 1 (by decide) rfl (hts _ (List.mem_of_getElem? (i := 7) rfl)) rfl dX4_init_81 ?_
      refine m_alen hx hb V (a := 2) 2 (by omega) rfl rfl (v := 20) rfl dX4_init_84 ?_
      refine lv_icmp_ge (tgt := 107) hx hb dX4_init_85 (by decide) (fun h => ?_) (fun h => absurd (by decide +kernel) h)
      refine lv_iconst (v := 0) hx hb dX4_init_107 (by decide) ?_
      rw [had] at hl
      refine lv_istore_n (lv' := [(1, .int 0), (0, .ref h0)]) hx hb dX4_init_108 rfl hl (by decide) rfl (fun ls hl => ?_)
      exact loop3 16 0 (by omega) ad _ _ _ _ _ had V hl (by omega) (by omega)
    | succ k ih =>
      intro i hi ad H locs ls cells slots had V hl hcc hss
      have hi9 : i < 20 := by omega
      have hl0 := hl
      rw [← had] at hl
      refine lv_iload_n hx hb dX4_init_79 rfl (lv_at hl 0 rfl) ?_
      refine lv_aload_n hx hb dX4_init_80 rfl (lv_at hl 1 rfl) ?_
      refine m_getr hx hb hts hown V (fun _ h => List.mem_cons_of_mem _ (List.mem_append_left _ (List.mem_append_left _ (List.mem_append_left _ (List.mem_append_left _ (List.mem_append_right _ h)))))) (a := 0) (by omega) rfl rfl 1 (by decide) rfl (hts _ (List.mem_of_getElem? (i := 7) rfl)) rfl dX4_init_81 ?_
      refine m_alen hx hb V (a := 2) 2 (by omega) rfl rfl (v := 20) rfl dX4_init_84 ?_
      refine lv_icmp_ge (tgt := 107) hx hb dX4_init_85 (by decide) (fun h => absurd ((nI_leI (a := 20) (b := i) (by omega) (by omega)).mp h) (by omega)) (fun h => ?_)
      refine lv_aload_n hx hb dX4_init_88 rfl (lv_at hl 1 rfl) ?_
      refine m_getr hx hb hts hown V (fun _ h => List.mem_cons_of_mem _ (List.mem_append_left _ (List.mem_append_left _ (List.mem_append_left _ (List.mem_append_left _ (List.mem_append_right _ h)))))) (a := 0) (by omega) rfl rfl 1 (by decide) rfl (hts _ (List.mem_of_getElem? (i := 7) rfl)) rfl dX4_init_89 ?_
      refine lv_iload_n hx hb dX4_init_92 rfl (lv_at hl 0 rfl) ?_
      refine m_new (ci := 1) (fs := [.int 0, .int 0, .int 0, .int 0, .int 0]) hx hb hts (fun _ h => List.mem_cons_of_mem _ (List.mem_append_left _ (List.mem_append_left _ (List.mem_append_right _ h)))) tyX1 tyX1_ok hown (hts _ (List.mem_of_getElem? (i := 6) rfl)) (hts _ (List.mem_of_getElem? (i := 16) rfl)) (hts _ (List.mem_of_getElem? (i := 17) rfl)) V rfl (by decide +kernel) (show cells + 1 ≤ 79 by omega) (show slots + 5 ≤ 440 by omega) dX4_init_93 (fun q1 H V => ?_)
      refine lv_dup hx hb dX4_init_96 rfl ?_
      refine m_callIN (o := 12 + i) (E1' := fun _ => iL) (E2 := mI y (va_up ad (12 + i) q1) 8 i 0) ⟨hx, hb, hml, hown, hts⟩ (by rw [va_up_self]; exact c_X1_init) (va_up_self _ _ _).symm ⟨va_cnB 0 hts ggX4_init_X1_init rfl rfl rfl (Z.1 _ (List.mem_of_getElem? (i := 2) rfl)) (hts _ (List.mem_of_getElem? (i := 17) rfl)) (by decide +kernel) ⟨Nat.le_of_ble_eq_true rfl, Nat.le_of_ble_eq_true rfl⟩, rfl, (hts _ (List.mem_of_getElem? (i := 23) rfl))⟩ mXc_ok V (by omega) (mI_newL hi9) (fun U hU hW => mXc_at Z hW) hl.1 (Nat.le_of_ble_eq_true rfl) ⟨show cells + 1 + 0 ≤ 79 by omega, show slots + 5 + 0 ≤ 440 by omega⟩ dX4_init_97 (fun H locs V => ?_)
      refine m_aast hx hb V 2 (a := 2) (b := 12 + i) (by omega) rfl rfl (by omega) (mI_L (by omega) (by omega)) rfl ⟨nI_pos' (by omega), by rw [nI_clamp (by omega)]; omega⟩ (mI_putL hi9) (congrArg Value.ref (va_up_self _ _ _).symm) (congrArg Value.ref (va_up_ne _ _ (show 2 ≠ 12 + i by omega)).symm) dX4_init_100 (fun H locs V => ?_)
      refine lv_iinc (v := nI i + 1) (lv' := [(1, .int (nI i + 1)), (0, .ref (ad 0))]) hx hb dX4_init_101 hl (k := 0) rfl rfl (by decide) rfl (fun ls hl => ?_)
      refine lv_goto (tgt := 79) hx hb dX4_init_104 (by decide) ?_
      rw [nI_1, had] at hl
      exact ih (i + 1) (by omega) _ _ _ _ _ _ ((va_up_ne _ _ (by omega)).trans had) V hl (by first | omega | (dsimp only; omega)) (by first | omega | (dsimp only; omega))
  have loop1 : ∀ (k i : Nat), i + k = 8 → ∀ (ad : Nat → Nat) (H : Heap) (locs : List Loc) (ls : Array Slot) (cells slots : Nat), ad 0 = h0 → mV D y (mFree 1 (fun _ => h0) s.heap.size) s s.heap H locs (4 + i) ad (mI y ad i 0 0) → lv_has ls 2 [(1, .int (nI i)), (0, .ref h0)] → cells + (1 * k + 68) ≤ 79 → slots + (5 * k + 356) ≤ 440 → W p l e { frames := 3, cells := 79, slots := 440, locals := 52 } s m args below meth c H locs cells slots (MQ below (mQN D 80 (fun ad => mS y ad iσ) h0 s.heap.size) args s 79 440 (mFree 1 (fun _ => h0) s.heap.size)) (F0 m 49 ls []) := by
    intro k
    induction k with
    | zero =>
      intro i hi ad H locs ls cells slots had V hl hcc hss
      have hi : i = 8 := by omega
      subst hi
      rw [← had] at hl
      refine lv_iload_n hx hb dX4_init_49 rfl (lv_at hl 0 rfl) ?_
      refine lv_aload_n hx hb dX4_init_50 rfl (lv_at hl 1 rfl) ?_
      refine m_getr hx hb hts hown V (fun _ h => List.mem_cons_of_mem _ (List.mem_append_left _ (List.mem_append_left _ (List.mem_append_left _ (List.mem_append_left _ (List.mem_append_right _ h)))))) (a := 0) (by omega) rfl rfl 0 (by decide) rfl (hts _ (List.mem_of_getElem? (i := 5) rfl)) rfl dX4_init_51 ?_
      refine m_alen hx hb V (a := 1) 3 (by omega) rfl rfl (v := 8) rfl dX4_init_54 ?_
      refine lv_icmp_ge (tgt := 77) hx hb dX4_init_55 (by decide) (fun h => ?_) (fun h => absurd (by decide +kernel) h)
      refine lv_iconst (v := 0) hx hb dX4_init_77 (by decide) ?_
      rw [had] at hl
      refine lv_istore_n (lv' := [(1, .int 0), (0, .ref h0)]) hx hb dX4_init_78 rfl hl (by decide) rfl (fun ls hl => ?_)
      exact loop2 20 0 (by omega) ad _ _ _ _ _ had V hl (by omega) (by omega)
    | succ k ih =>
      intro i hi ad H locs ls cells slots had V hl hcc hss
      have hi9 : i < 8 := by omega
      have hl0 := hl
      rw [← had] at hl
      refine lv_iload_n hx hb dX4_init_49 rfl (lv_at hl 0 rfl) ?_
      refine lv_aload_n hx hb dX4_init_50 rfl (lv_at hl 1 rfl) ?_
      refine m_getr hx hb hts hown V (fun _ h => List.mem_cons_of_mem _ (List.mem_append_left _ (List.mem_append_left _ (List.mem_append_left _ (List.mem_append_left _ (List.mem_append_right _ h)))))) (a := 0) (by omega) rfl rfl 0 (by decide) rfl (hts _ (List.mem_of_getElem? (i := 5) rfl)) rfl dX4_init_51 ?_
      refine m_alen hx hb V (a := 1) 3 (by omega) rfl rfl (v := 8) rfl dX4_init_54 ?_
      refine lv_icmp_ge (tgt := 77) hx hb dX4_init_55 (by decide) (fun h => absurd ((nI_leI (a := 8) (b := i) (by omega) (by omega)).mp h) (by omega)) (fun h => ?_)
      refine lv_aload_n hx hb dX4_init_58 rfl (lv_at hl 1 rfl) ?_
      refine m_getr hx hb hts hown V (fun _ h => List.mem_cons_of_mem _ (List.mem_append_left _ (List.mem_append_left _ (List.mem_append_left _ (List.mem_append_left _ (List.mem_append_right _ h)))))) (a := 0) (by omega) rfl rfl 0 (by decide) rfl (hts _ (List.mem_of_getElem? (i := 5) rfl)) rfl dX4_init_59 ?_
      refine lv_iload_n hx hb dX4_init_62 rfl (lv_at hl 0 rfl) ?_
      refine m_new (ci := 2) (fs := [.int 0, .int 0, .int 0, .int 0, .int 0]) hx hb hts (fun _ h => List.mem_cons_of_mem _ (List.mem_append_left _ (List.mem_append_left _ (List.mem_append_left _ (List.mem_append_right _ h))))) tyX2 tyX2_ok hown (hts _ (List.mem_of_getElem? (i := 4) rfl)) (hts _ (List.mem_of_getElem? (i := 14) rfl)) (hts _ (List.mem_of_getElem? (i := 15) rfl)) V rfl (by decide +kernel) (show cells + 1 ≤ 79 by omega) (show slots + 5 ≤ 440 by omega) dX4_init_63 (fun q1 H V => ?_)
      refine lv_dup hx hb dX4_init_66 rfl ?_
      refine m_callIN (o := 4 + i) ⟨hx, hb, hml, hown, hts⟩ (c_X2_init (E0 := va_up _ (4 + i) iP (4 + i))) (va_up_self _ _ _).symm ⟨va_cnB 0 hts ggX4_init_X2_init rfl rfl rfl (Z.1 _ (List.mem_of_getElem? (i := 1) rfl)) (hts _ (List.mem_of_getElem? (i := 15) rfl)) (by decide +kernel) ⟨Nat.le_of_ble_eq_true rfl, Nat.le_of_ble_eq_true rfl⟩, rfl, (hts _ (List.mem_of_getElem? (i := 20) rfl))⟩ mXc_ok V (by omega) (if_same rfl) (fun U hU hW => mXc_at Z hW) hl.1 (Nat.le_of_ble_eq_true rfl) ⟨show cells + 1 + 0 ≤ 79 by omega, show slots + 5 + 0 ≤ 440 by omega⟩ dX4_init_67 (fun H locs V => ?_)
      have V := V.to (mI_newP (q := q1) hi9)
      refine m_aast hx hb V 3 (a := 1) (b := 4 + i) (by omega) rfl rfl (by omega) (mI_P (by omega) (by omega)) rfl ⟨nI_pos' (by omega), by rw [nI_clamp (by omega)]; omega⟩ (mI_putP hi9) (congrArg Value.ref (va_up_self _ _ _).symm) (congrArg Value.ref (va_up_ne _ _ (show 1 ≠ 4 + i by omega)).symm) dX4_init_70 (fun H locs V => ?_)
      refine lv_iinc (v := nI i + 1) (lv' := [(1, .int (nI i + 1)), (0, .ref (ad 0))]) hx hb dX4_init_71 hl (k := 0) rfl rfl (by decide) rfl (fun ls hl => ?_)
      refine lv_goto (tgt := 49) hx hb dX4_init_74 (by decide) ?_
      rw [nI_1, had] at hl
      exact ih (i + 1) (by omega) _ _ _ _ _ _ ((va_up_ne _ _ (by omega)).trans had) V hl (by first | omega | (dsimp only; omega)) (by first | omega | (dsimp only; omega))
  refine lv_aload_n hx hb dX4_init_0 rfl (lv_at hl 0 rfl) ?_
  refine m_obj hx hb hml hl.1 hown (hts _ (List.mem_of_getElem? (i := 1) rfl)) (hts _ (List.mem_of_getElem? (i := 2) rfl)) (hts _ (List.mem_of_getElem? (i := 3) rfl)) (Nat.le_of_ble_eq_true rfl) (Nat.le_of_ble_eq_true rfl) dX4_init_1 ?_
  refine lv_aload_n hx hb dX4_init_4 rfl (lv_at hl 0 rfl) ?_
  refine lv_bipush (v := 8) hx hb dX4_init_5 (by decide) ?_
  refine m_newq hx hb hown (hts _ (List.mem_of_getElem? (i := 4) rfl)) Z.2.2.2 V 3 rfl (z := 8) (Z := 8) (by decide) rfl (by decide) (Nat.le_of_ble_eq_true rfl) (Nat.le_of_ble_eq_true rfl) dX4_init_7 (fun q1 H V => ?_)
  refine m_putF (ty := .array (.object "MinuteBank$Player")) (a := 0) (E' := iE1 y (.inr (4, [.ref q1, .null, .null, .int 0, .int 0, .int 0, .int 0, .int 0, .int 0, .int 0, .int 0, .int 0, .int 0, .int 0]))) hx hb hts hown hnm9 V (fun _ h => List.mem_cons_of_mem _ (List.mem_append_left _ (List.mem_append_left _ (List.mem_append_left _ (List.mem_append_left _ (List.mem_append_right _ h)))))) tyX4 tyX4_ok nmX4 (by omega) rfl rfl 0 (by decide) (Nat.le_of_ble_eq_true rfl) rfl rfl (hts _ (List.mem_of_getElem? (i := 5) rfl)) rfl (by decide +kernel) rfl rfl rfl iE1_p rfl dX4_init_10 (fun H locs V => ?_)
  refine lv_aload_n hx hb dX4_init_13 rfl (lv_at hl 0 rfl) ?_
  refine lv_bipush (v := 20) hx hb dX4_init_14 (by decide) ?_
  refine m_newq hx hb hown (hts _ (List.mem_of_getElem? (i := 6) rfl)) Z.2.2.1 V 2 rfl (z := 20) (Z := 20) (by decide) rfl (by decide) (Nat.le_of_ble_eq_true rfl) (Nat.le_of_ble_eq_true rfl) dX4_init_16 (fun q2 H V => ?_)
  refine m_putF (ty := .array (.object "MinuteBank$Loan")) (a := 0) (E' := iE2 y (.inr (4, [.ref q1, .ref q2, .null, .int 0, .int 0, .int 0, .int 0, .int 0, .int 0, .int 0, .int 0, .int 0, .int 0, .int 0]))) hx hb hts hown hnm9 V (fun _ h => List.mem_cons_of_mem _ (List.mem_append_left _ (List.mem_append_left _ (List.mem_append_left _ (List.mem_append_left _ (List.mem_append_right _ h)))))) tyX4 tyX4_ok nmX4 (by omega) rfl rfl 1 (by decide) (Nat.le_of_ble_eq_true rfl) rfl rfl (hts _ (List.mem_of_getElem? (i := 7) rfl)) rfl (by decide +kernel) rfl rfl rfl iE2_p rfl dX4_init_19 (fun H locs V => ?_)
  refine lv_aload_n hx hb dX4_init_22 rfl (lv_at hl 0 rfl) ?_
  refine lv_bipush (v := 16) hx hb dX4_init_23 (by decide) ?_
  refine m_newq hx hb hown (hts _ (List.mem_of_getElem? (i := 8) rfl)) Z.2.1 V 1 rfl (z := 16) (Z := 16) (by decide) rfl (by decide) (Nat.le_of_ble_eq_true rfl) (Nat.le_of_ble_eq_true rfl) dX4_init_25 (fun q3 H V => ?_)
  refine m_putF (ty := .array (.object "MinuteBank$Game")) (a := 0) (E' := iE3 y (.inr (4, [.ref q1, .ref q2, .ref q3, .int 0, .int 0, .int 0, .int 0, .int 0, .int 0, .int 0, .int 0, .int 0, .int 0, .int 0]))) hx hb hts hown hnm9 V (fun _ h => List.mem_cons_of_mem _ (List.mem_append_left _ (List.mem_append_left _ (List.mem_append_left _ (List.mem_append_left _ (List.mem_append_right _ h)))))) tyX4 tyX4_ok nmX4 (by omega) rfl rfl 2 (by decide) (Nat.le_of_ble_eq_true rfl) rfl rfl (hts _ (List.mem_of_getElem? (i := 9) rfl)) rfl (by decide +kernel) rfl rfl rfl iE3_p rfl dX4_init_28 (fun H locs V => ?_)
  refine lv_aload_n hx hb dX4_init_31 rfl (lv_at hl 0 rfl) ?_
  refine lv_ldc (v := 100000) hx hb hown (hts _ (List.mem_of_getElem? (i := 10) rfl)) dX4_init_32 ?_
  refine m_putl (a := 0) (E' := iE3 y (.inr (4, [.ref q1, .ref q2, .ref q3, .int 0, .int 0, .int 0, .int 0, .int 100000, .int 0, .int 0, .int 0, .int 0, .int 0, .int 0]))) hx hb hts hown V (fun _ h => List.mem_cons_of_mem _ (List.mem_append_left _ (List.mem_append_left _ (List.mem_append_left _ (List.mem_append_left _ (List.mem_append_right _ h)))))) tyX4 tyX4_ok nmX4 (by omega) rfl rfl 7 (by decide) (Nat.le_of_ble_eq_true rfl) rfl (hts _ (List.mem_of_getElem? (i := 11) rfl)) rfl (by decide +kernel) rfl iE3_q dX4_init_34 (fun H locs V => ?_)
  refine lv_aload_n hx hb dX4_init_37 rfl (lv_at hl 0 rfl) ?_
  refine lv_iconst (v := -1) hx hb dX4_init_38 (by decide) ?_
  refine m_putl (a := 0) (E' := iE3 y (.inr (4, [.ref q1, .ref q2, .ref q3, .int 0, .int 0, .int 0, .int 0, .int 100000, .int 0, .int 0, .int 0, .int 0, .int (-1), .int 0]))) hx hb hts hown V (fun _ h => List.mem_cons_of_mem _ (List.mem_append_left _ (List.mem_append_left _ (List.mem_append_left _ (List.mem_append_left _ (List.mem_append_right _ h)))))) tyX4 tyX4_ok nmX4 (by omega) rfl rfl 12 (by decide) (Nat.le_of_ble_eq_true rfl) rfl (hts _ (List.mem_of_getElem? (i := 12) rfl)) rfl (by decide +kernel) rfl iE3_q dX4_init_39 (fun H locs V => ?_)
  refine lv_aload_n hx hb dX4_init_42 rfl (lv_at hl 0 rfl) ?_
  refine lv_iconst (v := -1) hx hb dX4_init_43 (by decide) ?_
  refine m_putl (a := 0) (E' := iE3 y (.inr (4, [.ref q1, .ref q2, .ref q3, .int 0, .int 0, .int 0, .int 0, .int 100000, .int 0, .int 0, .int 0, .int 0, .int (-1), .int (-1)]))) hx hb hts hown V (fun _ h => List.mem_cons_of_mem _ (List.mem_append_left _ (List.mem_append_left _ (List.mem_append_left _ (List.mem_append_left _ (List.mem_append_right _ h)))))) tyX4 tyX4_ok nmX4 (by omega) rfl rfl 13 (by decide) (Nat.le_of_ble_eq_true rfl) rfl (hts _ (List.mem_of_getElem? (i := 13) rfl)) rfl (by decide +kernel) rfl iE3_q dX4_init_44 (fun H locs V => ?_)
  refine lv_iconst (v := 0) hx hb dX4_init_47 (by decide) ?_
  refine lv_istore_n (lv' := [(1, .int 0), (0, .ref h0)]) hx hb dX4_init_48 rfl hl (by decide) rfl (fun ls hl => ?_)
  exact loop1 8 0 (by omega) _ _ _ _ _ _ rfl (V.to (E' := mI y (va_up (va_up (va_up (fun _ => h0) 1 q1) 2 q2) 3 q3) 0 0 0) (fun c hc => match c, hc with
    | 0, _ => rfl
    | 1, _ => rfl
    | 2, _ => rfl
    | 3, _ => rfl
    | c + 4, h => absurd h (by omega))) hl (by omega) (by omega)
