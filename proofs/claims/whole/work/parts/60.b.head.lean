/-! ===== single calls: what they answer, one step at a time ===== -/
abbrev exI : String := "java/lang/IndexOutOfBoundsException"
abbrev exA : String := "java/lang/IllegalArgumentException"
abbrev exS : String := "java/lang/IllegalStateException"
theorem bS {α β : Type} (a : α) (f : α → Option β) : (some a).bind f = f a := rfl
theorem oL {α β : Type} (r : α) (f : α → β) (g : String → β) : oCase (.inl r) f g = f r := rfl
theorem oR {α β : Type} (e : String) (f : α → β) (g : String → β) : oCase (.inr e) f g = g e := rfl
theorem tI {a : Int32} {n : Int} (h : a.toInt = n) {b : Int32} {m : Int} (h2 : b.toInt = m) : (a < b ↔ n < m) ∧ (a ≤ b ↔ n ≤ m) := by
  rw [Int32.lt_iff_toInt_lt, Int32.le_iff_toInt_le, h, h2]
  exact ⟨Iff.rfl, Iff.rfl⟩
theorem idx (a : Int32) {n : Nat} (hn : n < 1000) : (∃ p, p < n ∧ a = nI p) ∨ (a < 0 ∨ nI n ≤ a) := by
  by_cases h : a < 0
  · exact Or.inr (Or.inl h)
  · obtain ⟨j, hj, rfl⟩ := nI_of h
    by_cases h2 : j < n
    · exact Or.inl ⟨j, h2, rfl⟩
    · exact Or.inr (Or.inr (nI_le (by omega) hj))
theorem mI_in {k n : Nat} (h : k < n) (hn : n < 1000) : mIn (nI k) n := ⟨nI_pos' (by omega), by rw [nI_clamp (by omega)]; exact h⟩
theorem cl {k : Nat} (h : k < 1000) : (nI k).toNatClampNeg = k := nI_clamp (by omega)
theorem pAt {N : Nat} {σ : mSt} {n p : Nat} (hn : n ≤ 8) (c : σ 21 0 = nI n) (h : p < n) : f_X4_playerAt N σ (nI p) = some (.inl p, σ) := by
  unfold f_X4_playerAt
  rw [if_neg (nI_pos (by omega)), c, if_neg (fun e => absurd ((nI_leI (by omega) (by omega)).mp e) (by omega)), if_pos (show nI p < (8 : Int32) from (show nI p < nI 8 from (nI_ltI (by omega) (by omega)).mpr (by omega))), if_pos (mI_in (by omega) (by omega)), cl (by omega)]
theorem pAt_o {N : Nat} {σ : mSt} {n : Nat} (c : σ 21 0 = nI n) {a : Int32} (h : a < 0 ∨ nI n ≤ a) : f_X4_playerAt N σ a = some (.inr exI, σ) := by
  unfold f_X4_playerAt
  by_cases h0 : a < 0
  · rw [if_pos h0]
  · rw [if_neg h0, c, if_pos (h.resolve_left h0)]
theorem lAt {N : Nat} {σ : mSt} {n p : Nat} (hn : n ≤ 20) (c : σ 22 0 = nI n) (h : p < n) : f_X4_loanAt N σ (nI p) = some (.inl p, σ) := by
  unfold f_X4_loanAt
  rw [if_neg (nI_pos (by omega)), c, if_neg (fun e => absurd ((nI_leI (by omega) (by omega)).mp e) (by omega)), if_pos (show nI p < (20 : Int32) from (show nI p < nI 20 from (nI_ltI (by omega) (by omega)).mpr (by omega))), if_pos (mI_in (by omega) (by omega)), cl (by omega)]
theorem lAt_o {N : Nat} {σ : mSt} {n : Nat} (c : σ 22 0 = nI n) {a : Int32} (h : a < 0 ∨ nI n ≤ a) : f_X4_loanAt N σ a = some (.inr exI, σ) := by
  unfold f_X4_loanAt
  by_cases h0 : a < 0
  · rw [if_pos h0]
  · rw [if_neg h0, c, if_pos (h.resolve_left h0)]
theorem gAt {N : Nat} {σ : mSt} {n p : Nat} (hn : n ≤ 16) (c : σ 23 0 = nI n) (h : p < n) : f_X4_gameAt N σ (nI p) = some (.inl p, σ) := by
  unfold f_X4_gameAt
  rw [if_neg (nI_pos (by omega)), c, if_neg (fun e => absurd ((nI_leI (by omega) (by omega)).mp e) (by omega)), if_pos (show nI p < (16 : Int32) from (show nI p < nI 16 from (nI_ltI (by omega) (by omega)).mpr (by omega))), if_pos (mI_in (by omega) (by omega)), cl (by omega)]
theorem gAt_o {N : Nat} {σ : mSt} {n : Nat} (c : σ 23 0 = nI n) {a : Int32} (h : a < 0 ∨ nI n ≤ a) : f_X4_gameAt N σ a = some (.inr exI, σ) := by
  unfold f_X4_gameAt
  by_cases h0 : a < 0
  · rw [if_pos h0]
  · rw [if_neg h0, c, if_pos (h.resolve_left h0)]
theorem iO {N : Nat} {σ τ : mSt} {a lo hi : Int32} (h : lo ≤ a ∧ a ≤ hi) : f_X5_isOutside N σ τ a lo hi = some (0, σ, τ) := by
  unfold f_X5_isOutside
  rw [if_neg (Int32.not_lt.mpr h.1), if_pos h.2]
theorem iO_o {N : Nat} {σ τ : mSt} {a lo hi : Int32} (h : ¬ (lo ≤ a ∧ a ≤ hi)) : f_X5_isOutside N σ τ a lo hi = some (1, σ, τ) := by
  unfold f_X5_isOutside
  by_cases h1 : a < lo
  · rw [if_pos h1]
  · rw [if_neg h1, if_neg (fun h2 => h ⟨Int32.not_lt.mp h1, h2⟩)]
theorem iI {N : Nat} {th : Int32} {ρ α : mSt} {a lo hi : Int32} (h : lo ≤ a ∧ a ≤ hi) : f_X7_isIn N th ρ α a lo hi = some (1, th, ρ, α) := by
  unfold f_X7_isIn
  rw [if_neg (Int32.not_lt.mpr h.1), if_neg (Int32.not_lt.mpr h.2)]
theorem iI_o {N : Nat} {th : Int32} {ρ α : mSt} {a lo hi : Int32} (h : ¬ (lo ≤ a ∧ a ≤ hi)) : f_X7_isIn N th ρ α a lo hi = some (0, th, ρ, α) := by
  unfold f_X7_isIn
  by_cases h1 : a < lo
  · rw [if_pos h1]
  · rw [if_neg h1, if_pos (Int32.not_le.mp (fun h2 => h ⟨Int32.not_lt.mp h1, h2⟩))]
theorem subI {a b : Int32} (h : -2147483648 ≤ a.toInt - b.toInt ∧ a.toInt - b.toInt < 2147483648) : (a - b).toInt = a.toInt - b.toInt := by
  rw [Int32.toInt_sub, Int.bmod_def]
  omega
theorem addI {a b : Int32} (h : -2147483648 ≤ a.toInt + b.toInt ∧ a.toInt + b.toInt < 2147483648) : (a + b).toInt = a.toInt + b.toInt := by
  rw [Int32.toInt_add, Int.bmod_def]
  omega
theorem mulI {a b : Int32} (h : -2147483648 ≤ a.toInt * b.toInt ∧ a.toInt * b.toInt < 2147483648) : (a * b).toInt = a.toInt * b.toInt := by
  rw [Int32.toInt_mul, Int.bmod_def]
  generalize a.toInt * b.toInt = z at h ⊢
  omega
theorem nIt {k : Nat} (h : k < 1000) : (nI k).toInt = k := nI_toInt (by omega)
theorem t0 : (0 : Int32).toInt = 0 := by decide
theorem t1 : (1 : Int32).toInt = 1 := by decide
theorem t2 : (2 : Int32).toInt = 2 := by decide
theorem lI {a b : Int32} : a < b ↔ a.toInt < b.toInt := Int32.lt_iff_toInt_lt
theorem leI {a b : Int32} : a ≤ b ↔ a.toInt ≤ b.toInt := Int32.le_iff_toInt_le
theorem isP {n p : Nat} (hn : n < 1000) (h : p < n) : 0 ≤ nI p ∧ nI p ≤ nI n - 1 := by
  have e := subI (a := nI n) (b := 1) (by rw [nIt hn, t1]; omega)
  rw [leI, leI, e, nIt hn, nIt (by omega), t0, t1]
  omega
theorem isP_o {n : Nat} (hn : n < 1000) {a : Int32} (h : a < 0 ∨ nI n ≤ a) : ¬ (0 ≤ a ∧ a ≤ nI n - 1) := by
  have e := subI (a := nI n) (b := 1) (by rw [nIt hn, t1]; omega)
  rw [leI, leI, e, nIt hn, t0, t1]
  rw [lI, leI, nIt hn, t0] at h
  omega
theorem no0 {N : Nat} {th : Int32} {ρ α : mSt} {a : Int32} : f_X7_no N th ρ α a = some (0, a, ρ, α) := rfl
theorem one0 : ((1 : Int32) = 0) = False := eq_false (by decide)
theorem isPl {N : Nat} {th : Int32} {ρ α : mSt} {n p : Nat} (hn : n < 1000) (d : ρ 21 0 = nI n) (h : p < n) : f_X7_isPlayer N th ρ α (nI p) = some (1, th, ρ, α) := by
  unfold f_X7_isPlayer
  rw [d, iI (isP hn h), bS, if_pos (Or.inr rfl)]
theorem isPl_o {N : Nat} {th : Int32} {ρ α : mSt} {n : Nat} (hn : n < 1000) (d : ρ 21 0 = nI n) {a : Int32} (h : a < 0 ∨ nI n ≤ a) : f_X7_isPlayer N th ρ α a = some (0, th, ρ, α) := by
  unfold f_X7_isPlayer
  rw [d, iI_o (isP_o hn h), bS, if_pos (Or.inl rfl)]
theorem isLn {N : Nat} {th : Int32} {ρ α : mSt} {n p : Nat} (hn : n < 1000) (d : ρ 23 0 = nI n) (h : p < n) : f_X7_isLoan N th ρ α (nI p) = some (1, th, ρ, α) := by
  unfold f_X7_isLoan
  rw [d, iI (isP hn h), bS, if_pos (Or.inr rfl)]
theorem isLn_o {N : Nat} {th : Int32} {ρ α : mSt} {n : Nat} (hn : n < 1000) (d : ρ 23 0 = nI n) {a : Int32} (h : a < 0 ∨ nI n ≤ a) : f_X7_isLoan N th ρ α a = some (0, th, ρ, α) := by
  unfold f_X7_isLoan
  rw [d, iI_o (isP_o hn h), bS, if_pos (Or.inl rfl)]
theorem isGm {N : Nat} {th : Int32} {ρ α : mSt} {n p : Nat} (hn : n < 1000) (d : ρ 22 0 = nI n) (h : p < n) : f_X7_isGame N th ρ α (nI p) = some (1, th, ρ, α) := by
  unfold f_X7_isGame
  rw [d, iI (isP hn h), bS, if_pos (Or.inr rfl)]
theorem isGm_o {N : Nat} {th : Int32} {ρ α : mSt} {n : Nat} (hn : n < 1000) (d : ρ 22 0 = nI n) {a : Int32} (h : a < 0 ∨ nI n ≤ a) : f_X7_isGame N th ρ α a = some (0, th, ρ, α) := by
  unfold f_X7_isGame
  rw [d, iI_o (isP_o hn h), bS, if_pos (Or.inl rfl)]
/-- an answer, or the number of what was thrown -/
def An (l : List (String × Int32)) (o : Int32 ⊕ String) (r th : Int32) : Prop := (o = .inl r ∧ th = 0) ∨ ∃ e c, (e, c) ∈ l ∧ o = .inr e ∧ th = c
theorem An.ok {l : List (String × Int32)} {r : Int32} : An l (.inl r) r 0 := Or.inl ⟨rfl, rfl⟩
theorem An.no {l : List (String × Int32)} {r : Int32} {e : String} {c : Int32} (i : Nat) (h : l[i]? = some (e, c)) : An l (.inr e) r c := Or.inr ⟨e, c, List.mem_of_getElem? h, rfl, rfl⟩
abbrev lISA : List (String × Int32) := [(exI, 1), (exA, 2), (exS, 3)]
theorem g_mk {X : Option ((Int32 ⊕ String) × mSt × mSt)} {Y : Option (Int32 × Int32 × mSt × mSt)} {l : List (String × Int32)} {P : mSt → mSt → Prop} {τ α : mSt} {o : Int32 ⊕ String} {r th9 : Int32} {σ9 ρ9 : mSt} (e1 : X = some (o, σ9, τ)) (e2 : Y = some (r, th9, ρ9, α)) (a : An l o r th9) (i : P σ9 ρ9) : ∃ o r th9 σ9 ρ9, X = some (o, σ9, τ) ∧ Y = some (r, th9, ρ9, α) ∧ An l o r th9 ∧ P σ9 ρ9 := ⟨o, r, th9, σ9, ρ9, e1, e2, a, i⟩
theorem nn {a : Int32} : ¬ a < a := Int32.lt_irrefl
theorem mI_t {k n : Nat} (h : k < n) (hn : n < 1000) : mIn (nI k) n = True := eq_true (mI_in h hn)
theorem uX {σ : mSt} {f k g j : Nat} {x : Int32} : mUp σ f k x g j = if g = f ∧ j = k then x else σ g j := rfl
theorem sn {a b : Int32} : a + -b = a - b := (Int32.sub_eq_add_neg ..).symm
theorem ssn {a b : Int32} : a - -b = a + b := by rw [Int32.sub_eq_add_neg, Int32.neg_neg]
theorem o1 {c r n : Int32} : c - r - n = c - (r + n) := by
  rw [Int32.sub_eq_add_neg, Int32.sub_eq_add_neg, Int32.sub_eq_add_neg, Int32.neg_add, Int32.sub_eq_add_neg, Int32.add_assoc]
theorem o2 {c r n : Int32} : c - r + n = c - (r - n) := by
  rw [Int32.sub_eq_add_neg, Int32.sub_eq_add_neg c, Int32.neg_sub, Int32.sub_eq_add_neg, Int32.add_assoc, Int32.add_comm n]
theorem iv_25o {np nl ng B x : Nat} {σ ρ : mSt} (h : Iv np nl ng B x σ ρ) (v : Int32) {w : Int32} (hw : w = 100000 - v) : Iv np nl ng B x (mUp σ 25 0 v) (mUp (mUp ρ 24 0 v) 26 0 w) := by
  subst hw
  exact iv_25 h v
theorem two_nI (g : Nat) : 2 * nI g = nI (2 * g) := (Int32.ofNat_mul 2 g).symm
theorem s01 {a : Int32} (h : 0 ≤ a ∧ a ≤ 1) : a = 0 ∨ a = 1 := by
  rw [leI, leI, t0, t1] at h
  rcases (show a.toInt = 0 ∨ a.toInt = 1 by omega) with e | e
  · exact Or.inl (Int32.toInt_inj.mp e)
  · exact Or.inr (Int32.toInt_inj.mp e)
theorem mMin_I (x y : Int32) : (mMin x y).toInt = min x.toInt y.toInt := by
  unfold mMin
  by_cases h : y < x
  · rw [if_pos h]; rw [lI] at h; omega
  · rw [if_neg h]; rw [lI] at h; omega
theorem mMax_I (x y : Int32) : (mMax x y).toInt = max x.toInt y.toInt := by
  unfold mMax
  by_cases h : x < y
  · rw [if_pos h]; rw [lI] at h; omega
  · rw [if_neg h]; rw [lI] at h; omega
theorem mMin_as (a b c : Int32) : mMin (mMin a b) c = mMin a (mMin b c) := by
  apply Int32.toInt_inj.mp
  rw [mMin_I, mMin_I, mMin_I, mMin_I]
  omega
theorem rg {a : Int32} {n : Nat} (hn : n < 999) (h : 0 ≤ a ∧ a ≤ nI n) : ∃ k, k ≤ n ∧ a = nI k := by
  rcases idx a (show n + 1 < 1000 by omega) with ⟨k, hk, e⟩ | x
  · exact ⟨k, by omega, e⟩
  · rw [leI, leI, t0, nIt (by omega)] at h
    rw [lI, leI, t0, nIt (by omega)] at x
    omega
theorem rg_o {a : Int32} {n : Nat} {m : Int} (hm : m = n) (hn : n < 999) (h : ¬ (0 ≤ a ∧ a ≤ nI n)) : a.toInt < 0 ∨ m < a.toInt := by
  rw [leI, leI, t0, nIt (by omega)] at h
  omega
theorem rg_i {n k : Nat} {m : Int} (hm : m = n) (hn : n < 999) (h : k ≤ n) : ¬ ((nI k).toInt < 0 ∨ m < (nI k).toInt) := by
  rw [nIt (by omega)]
  omega
theorem neA {g : Nat} : (2 * g = 2 * g + 1) = False := eq_false (by omega)
theorem neB {g : Nat} : (2 * g + 1 = 2 * g) = False := eq_false (by omega)
theorem zero1 : ((0 : Int32) = 1) = False := eq_false (by decide)
theorem s10 : (1 : Int32) - 0 = 1 := by decide
theorem s11 : (1 : Int32) - 1 = 0 := by decide
theorem nn9 {a : Int32} : ¬ a < a := fun h => by rw [lI] at h; omega
