/-! ===== what both sides agree on, laid by program (wip/whole/mkiv.py) ===== -/
def sI (n : Nat) (h : Nat → Int32) : Int32 := match n with
  | 0 => 0
  | n + 1 => sI n h + h n
theorem sI_eq {n : Nat} {h h' : Nat → Int32} (e : ∀ k, k < n → h k = h' k) : sI n h = sI n h' := by
  induction n with
  | zero => rfl
  | succ n ih =>
    show sI n h + h n = sI n h' + h' n
    rw [ih (fun k hk => e k (by omega)), e n (by omega)]
theorem sI_more {n m : Nat} {h : Nat → Int32} (e : ∀ k, n ≤ k → k < n + m → h k = 0) : sI (n + m) h = sI n h := by
  induction m with
  | zero => rfl
  | succ m ih =>
    show sI (n + m) h + h (n + m) = sI n h
    rw [ih (fun k h1 h2 => e k h1 (by omega)), e (n + m) (by omega) (by omega), Int32.add_zero]
/-- the same sum where what is behind n is 0 -/
theorem sI_to {n M : Nat} {h h' : Nat → Int32} (hn : n ≤ M) (e : ∀ k, k < n → h k = h' k) (z : ∀ k, n ≤ k → k < M → h k = 0) : sI M h = sI n h' := by
  obtain ⟨m, rfl⟩ : ∃ m, M = n + m := ⟨M - n, by omega⟩
  rw [sI_more z, sI_eq e]
theorem uS {σ : mSt} {f k : Nat} {x : Int32} : mUp σ f k x f k = x := by unfold mUp; rw [if_pos ⟨rfl, rfl⟩]
theorem uO {σ : mSt} {f k q : Nat} {x : Int32} (h : q ≠ k) : mUp σ f k x f q = σ f q := by unfold mUp; rw [if_neg (fun e => h e.2)]
theorem mUp_eq {σ ρ : mSt} {f g p q : Nat} {x z : Int32} (hx : x = z) (h : q ≠ p → ρ g q = σ f q) : mUp ρ g p x g q = mUp σ f p z f q := by
  by_cases e : q = p
  · subst e; rw [uS, uS, hx]
  · rw [uO e, uO e, h e]
theorem mUp_all {σ : mSt} {f p q : Nat} {x : Int32} (P : Int32 → Prop) (hx : q = p → P x) (h : q ≠ p → P (σ f q)) : P (mUp σ f p x f q) := by
  by_cases e : q = p
  · subst e; rw [uS]; exact hx rfl
  · rw [uO e]; exact h e
theorem sI_up {σ : mSt} {n f p : Nat} {x : Int32} (hp : p < n) : sI n (mUp σ f p x f) = sI n (σ f) + (x - σ f p) := by
  induction n with
  | zero => omega
  | succ n ih =>
    show sI n (mUp σ f p x f) + mUp σ f p x f n = sI n (σ f) + σ f n + (x - σ f p)
    by_cases e : n = p
    · subst e
      rw [uS, sI_eq (h := mUp σ f n x f) (h' := σ f) (fun k hk => uO (by omega))]
      rw [Int32.add_assoc, Int32.add_comm (σ f n), Int32.sub_add_cancel]
    · rw [uO e, ih (by omega), Int32.add_assoc, Int32.add_assoc, Int32.add_comm (σ f n)]
def Iv (np nl ng B x : Nat) (σ ρ : mSt) : Prop := (np ≤ 8) ∧ (nl ≤ 20) ∧ (ng ≤ 16) ∧ (σ 21 0 = nI np) ∧ (σ 22 0 = nI nl) ∧ (σ 23 0 = nI ng) ∧ (ρ 21 0 = nI np) ∧ (ρ 23 0 = nI nl) ∧ (ρ 22 0 = nI ng) ∧ (ρ 20 0 = σ 24 0) ∧ (ρ 24 0 = σ 25 0) ∧ (ρ 25 0 = σ 26 0) ∧ (ρ 26 0 = 100000 - σ 25 0) ∧ (σ 27 0 = sI np (σ 4)) ∧ (∀ p, p < np → ρ 0 p = σ 0 p) ∧ (∀ p, p < np → ρ 1 p = σ 1 p) ∧ (∀ p, p < np → ρ 2 p = σ 2 p) ∧ (∀ p, p < np → ρ 3 p = σ 3 p) ∧ (∀ p, p < np → ρ 4 p = σ 4 p) ∧ (∀ k, k < nl → ρ 15 k = σ 5 k) ∧ (∀ k, k < nl → ρ 16 k = σ 6 k) ∧ (∀ k, k < nl → ρ 17 k = σ 7 k) ∧ (∀ k, k < nl → ρ 18 k = σ 8 k) ∧ (∀ k, k < nl → ρ 19 k = σ 9 k) ∧ (∀ g, g < ng → ρ 8 g = σ 11 g) ∧ (∀ g, g < ng → ρ 9 g = σ 12 g) ∧ (∀ g, g < ng → ρ 10 g = σ 13 g) ∧ (∀ g, g < ng → ρ 11 g = σ 14 g) ∧ (∀ g, g < ng → ρ 12 g = σ 15 g) ∧ (∀ g, g < ng → ρ 13 g = σ 16 g) ∧ (∀ g, g < ng → ρ 14 g = σ 17 g) ∧ (∀ i, i < 2 * ng → ρ 5 i = σ 18 i) ∧ (∀ i, i < 2 * ng → ρ 6 i = σ 19 i) ∧ (∀ i, i < 2 * ng → ρ 7 i = σ 20 i) ∧ (∀ g, g < ng → σ 10 g = nI g) ∧ (∀ i, i < 2 * ng → ∃ p, p < np ∧ σ 18 i = nI p) ∧ (∀ g, g < ng → σ 18 (2 * g) ≠ σ 18 (2 * g + 1)) ∧ (∀ k, k < nl → ∃ p, p < np ∧ σ 5 k = nI p) ∧ (∀ k, k < nl → σ 9 k = 0 ∨ σ 9 k = 1 ∨ σ 9 k = 2) ∧ (∀ k, nl ≤ k → k < 20 → σ 9 k = -1) ∧ (∀ g, g < ng → σ 17 g = 0 ∨ σ 17 g = 1 ∨ σ 17 g = 2 ∨ σ 17 g = 3) ∧ (∀ g, ng ≤ g → g < 16 → σ 17 g = -1) ∧ (∀ g, g < ng → σ 14 g = 0 ∨ σ 14 g = 1) ∧ (∀ p, p < np → 0 ≤ (σ 1 p).toInt ∧ (σ 1 p).toInt ≤ B) ∧ (∀ p, p < np → 0 ≤ (σ 2 p).toInt ∧ (σ 2 p).toInt ≤ B) ∧ (∀ p, p < np → 0 ≤ (σ 3 p).toInt ∧ (σ 3 p).toInt ≤ B) ∧ (∀ k, k < nl → 0 ≤ (σ 6 k).toInt ∧ (σ 6 k).toInt ≤ 1000000) ∧ (∀ k, k < nl → 0 ≤ (σ 7 k).toInt ∧ (σ 7 k).toInt ≤ 100) ∧ (∀ g, g < ng → 0 ≤ (σ 11 g).toInt ∧ (σ 11 g).toInt ≤ 30) ∧ (∀ g, g < ng → 0 ≤ (σ 12 g).toInt ∧ (σ 12 g).toInt ≤ 30) ∧ (∀ g, g < ng → 0 ≤ (σ 16 g).toInt ∧ (σ 16 g).toInt ≤ B) ∧ (∀ g, g < ng → g ≠ x → σ 17 g = 0 → 1 ≤ (σ 19 (2 * g)).toInt ∧ 1 ≤ (σ 19 (2 * g + 1)).toInt ∧ (σ 19 (2 * g)).toInt + (σ 19 (2 * g + 1)).toInt ≤ 14400 + B) ∧ (∀ i, i < 2 * ng → 0 ≤ (σ 20 i).toInt ∧ (σ 20 i).toInt ≤ B) ∧ (∀ p, np ≤ p → p < 8 → σ 1 p = 0 ∧ ρ 1 p = 0) ∧ (∀ p, np ≤ p → p < 8 → σ 2 p = 0 ∧ ρ 2 p = 0) ∧ (∀ p, np ≤ p → p < 8 → σ 3 p = 0 ∧ ρ 3 p = 0) ∧ (∀ p, np ≤ p → p < 8 → σ 4 p = 0 ∧ ρ 4 p = 0) ∧ (∀ i, 2 * ng ≤ i → i < 32 → ρ 7 i = 0) ∧ (∀ g, ng ≤ g → g < 16 → ρ 11 g = 0) ∧ (∀ g, ng ≤ g → g < 16 → ρ 12 g = 0) ∧ (∀ g, ng ≤ g → g < 16 → ρ 13 g = 0) ∧ (∀ g, ng ≤ g → g < 16 → ρ 14 g = 0)
theorem Iv.hp {np nl ng B x : Nat} {σ ρ : mSt} (h : Iv np nl ng B x σ ρ) : np ≤ 8 := h.1
theorem Iv.hl {np nl ng B x : Nat} {σ ρ : mSt} (h : Iv np nl ng B x σ ρ) : nl ≤ 20 := h.2.1
theorem Iv.hg {np nl ng B x : Nat} {σ ρ : mSt} (h : Iv np nl ng B x σ ρ) : ng ≤ 16 := h.2.2.1
theorem Iv.c21 {np nl ng B x : Nat} {σ ρ : mSt} (h : Iv np nl ng B x σ ρ) : σ 21 0 = nI np := h.2.2.2.1
theorem Iv.c22 {np nl ng B x : Nat} {σ ρ : mSt} (h : Iv np nl ng B x σ ρ) : σ 22 0 = nI nl := h.2.2.2.2.1
theorem Iv.c23 {np nl ng B x : Nat} {σ ρ : mSt} (h : Iv np nl ng B x σ ρ) : σ 23 0 = nI ng := h.2.2.2.2.2.1
theorem Iv.d21 {np nl ng B x : Nat} {σ ρ : mSt} (h : Iv np nl ng B x σ ρ) : ρ 21 0 = nI np := h.2.2.2.2.2.2.1
theorem Iv.d23 {np nl ng B x : Nat} {σ ρ : mSt} (h : Iv np nl ng B x σ ρ) : ρ 23 0 = nI nl := h.2.2.2.2.2.2.2.1
theorem Iv.d22 {np nl ng B x : Nat} {σ ρ : mSt} (h : Iv np nl ng B x σ ρ) : ρ 22 0 = nI ng := h.2.2.2.2.2.2.2.2.1
theorem Iv.tm {np nl ng B x : Nat} {σ ρ : mSt} (h : Iv np nl ng B x σ ρ) : ρ 20 0 = σ 24 0 := h.2.2.2.2.2.2.2.2.2.1
theorem Iv.rs {np nl ng B x : Nat} {σ ρ : mSt} (h : Iv np nl ng B x σ ρ) : ρ 24 0 = σ 25 0 := h.2.2.2.2.2.2.2.2.2.2.1
theorem Iv.bk {np nl ng B x : Nat} {σ ρ : mSt} (h : Iv np nl ng B x σ ρ) : ρ 25 0 = σ 26 0 := h.2.2.2.2.2.2.2.2.2.2.2.1
theorem Iv.ou {np nl ng B x : Nat} {σ ρ : mSt} (h : Iv np nl ng B x σ ρ) : ρ 26 0 = 100000 - σ 25 0 := h.2.2.2.2.2.2.2.2.2.2.2.2.1
theorem Iv.ca {np nl ng B x : Nat} {σ ρ : mSt} (h : Iv np nl ng B x σ ρ) : σ 27 0 = sI np (σ 4) := h.2.2.2.2.2.2.2.2.2.2.2.2.2.1
theorem Iv.e0 {np nl ng B x : Nat} {σ ρ : mSt} (h : Iv np nl ng B x σ ρ) : ∀ p, p < np → ρ 0 p = σ 0 p := h.2.2.2.2.2.2.2.2.2.2.2.2.2.2.1
theorem Iv.e1 {np nl ng B x : Nat} {σ ρ : mSt} (h : Iv np nl ng B x σ ρ) : ∀ p, p < np → ρ 1 p = σ 1 p := h.2.2.2.2.2.2.2.2.2.2.2.2.2.2.2.1
theorem Iv.e2 {np nl ng B x : Nat} {σ ρ : mSt} (h : Iv np nl ng B x σ ρ) : ∀ p, p < np → ρ 2 p = σ 2 p := h.2.2.2.2.2.2.2.2.2.2.2.2.2.2.2.2.1
theorem Iv.e3 {np nl ng B x : Nat} {σ ρ : mSt} (h : Iv np nl ng B x σ ρ) : ∀ p, p < np → ρ 3 p = σ 3 p := h.2.2.2.2.2.2.2.2.2.2.2.2.2.2.2.2.2.1
theorem Iv.e4 {np nl ng B x : Nat} {σ ρ : mSt} (h : Iv np nl ng B x σ ρ) : ∀ p, p < np → ρ 4 p = σ 4 p := h.2.2.2.2.2.2.2.2.2.2.2.2.2.2.2.2.2.2.1
theorem Iv.e15 {np nl ng B x : Nat} {σ ρ : mSt} (h : Iv np nl ng B x σ ρ) : ∀ k, k < nl → ρ 15 k = σ 5 k := h.2.2.2.2.2.2.2.2.2.2.2.2.2.2.2.2.2.2.2.1
theorem Iv.e16 {np nl ng B x : Nat} {σ ρ : mSt} (h : Iv np nl ng B x σ ρ) : ∀ k, k < nl → ρ 16 k = σ 6 k := h.2.2.2.2.2.2.2.2.2.2.2.2.2.2.2.2.2.2.2.2.1
theorem Iv.e17 {np nl ng B x : Nat} {σ ρ : mSt} (h : Iv np nl ng B x σ ρ) : ∀ k, k < nl → ρ 17 k = σ 7 k := h.2.2.2.2.2.2.2.2.2.2.2.2.2.2.2.2.2.2.2.2.2.1
theorem Iv.e18 {np nl ng B x : Nat} {σ ρ : mSt} (h : Iv np nl ng B x σ ρ) : ∀ k, k < nl → ρ 18 k = σ 8 k := h.2.2.2.2.2.2.2.2.2.2.2.2.2.2.2.2.2.2.2.2.2.2.1
theorem Iv.e19 {np nl ng B x : Nat} {σ ρ : mSt} (h : Iv np nl ng B x σ ρ) : ∀ k, k < nl → ρ 19 k = σ 9 k := h.2.2.2.2.2.2.2.2.2.2.2.2.2.2.2.2.2.2.2.2.2.2.2.1
theorem Iv.e8 {np nl ng B x : Nat} {σ ρ : mSt} (h : Iv np nl ng B x σ ρ) : ∀ g, g < ng → ρ 8 g = σ 11 g := h.2.2.2.2.2.2.2.2.2.2.2.2.2.2.2.2.2.2.2.2.2.2.2.2.1
theorem Iv.e9 {np nl ng B x : Nat} {σ ρ : mSt} (h : Iv np nl ng B x σ ρ) : ∀ g, g < ng → ρ 9 g = σ 12 g := h.2.2.2.2.2.2.2.2.2.2.2.2.2.2.2.2.2.2.2.2.2.2.2.2.2.1
theorem Iv.e10 {np nl ng B x : Nat} {σ ρ : mSt} (h : Iv np nl ng B x σ ρ) : ∀ g, g < ng → ρ 10 g = σ 13 g := h.2.2.2.2.2.2.2.2.2.2.2.2.2.2.2.2.2.2.2.2.2.2.2.2.2.2.1
theorem Iv.e11 {np nl ng B x : Nat} {σ ρ : mSt} (h : Iv np nl ng B x σ ρ) : ∀ g, g < ng → ρ 11 g = σ 14 g := h.2.2.2.2.2.2.2.2.2.2.2.2.2.2.2.2.2.2.2.2.2.2.2.2.2.2.2.1
theorem Iv.e12 {np nl ng B x : Nat} {σ ρ : mSt} (h : Iv np nl ng B x σ ρ) : ∀ g, g < ng → ρ 12 g = σ 15 g := h.2.2.2.2.2.2.2.2.2.2.2.2.2.2.2.2.2.2.2.2.2.2.2.2.2.2.2.2.1
theorem Iv.e13 {np nl ng B x : Nat} {σ ρ : mSt} (h : Iv np nl ng B x σ ρ) : ∀ g, g < ng → ρ 13 g = σ 16 g := h.2.2.2.2.2.2.2.2.2.2.2.2.2.2.2.2.2.2.2.2.2.2.2.2.2.2.2.2.2.1
theorem Iv.e14 {np nl ng B x : Nat} {σ ρ : mSt} (h : Iv np nl ng B x σ ρ) : ∀ g, g < ng → ρ 14 g = σ 17 g := h.2.2.2.2.2.2.2.2.2.2.2.2.2.2.2.2.2.2.2.2.2.2.2.2.2.2.2.2.2.2.1
theorem Iv.e5 {np nl ng B x : Nat} {σ ρ : mSt} (h : Iv np nl ng B x σ ρ) : ∀ i, i < 2 * ng → ρ 5 i = σ 18 i := h.2.2.2.2.2.2.2.2.2.2.2.2.2.2.2.2.2.2.2.2.2.2.2.2.2.2.2.2.2.2.2.1
theorem Iv.e6 {np nl ng B x : Nat} {σ ρ : mSt} (h : Iv np nl ng B x σ ρ) : ∀ i, i < 2 * ng → ρ 6 i = σ 19 i := h.2.2.2.2.2.2.2.2.2.2.2.2.2.2.2.2.2.2.2.2.2.2.2.2.2.2.2.2.2.2.2.2.1
theorem Iv.e7 {np nl ng B x : Nat} {σ ρ : mSt} (h : Iv np nl ng B x σ ρ) : ∀ i, i < 2 * ng → ρ 7 i = σ 20 i := h.2.2.2.2.2.2.2.2.2.2.2.2.2.2.2.2.2.2.2.2.2.2.2.2.2.2.2.2.2.2.2.2.2.1
theorem Iv.nu {np nl ng B x : Nat} {σ ρ : mSt} (h : Iv np nl ng B x σ ρ) : ∀ g, g < ng → σ 10 g = nI g := h.2.2.2.2.2.2.2.2.2.2.2.2.2.2.2.2.2.2.2.2.2.2.2.2.2.2.2.2.2.2.2.2.2.2.1
theorem Iv.pl {np nl ng B x : Nat} {σ ρ : mSt} (h : Iv np nl ng B x σ ρ) : ∀ i, i < 2 * ng → ∃ p, p < np ∧ σ 18 i = nI p := h.2.2.2.2.2.2.2.2.2.2.2.2.2.2.2.2.2.2.2.2.2.2.2.2.2.2.2.2.2.2.2.2.2.2.2.1
theorem Iv.ne {np nl ng B x : Nat} {σ ρ : mSt} (h : Iv np nl ng B x σ ρ) : ∀ g, g < ng → σ 18 (2 * g) ≠ σ 18 (2 * g + 1) := h.2.2.2.2.2.2.2.2.2.2.2.2.2.2.2.2.2.2.2.2.2.2.2.2.2.2.2.2.2.2.2.2.2.2.2.2.1
theorem Iv.bo {np nl ng B x : Nat} {σ ρ : mSt} (h : Iv np nl ng B x σ ρ) : ∀ k, k < nl → ∃ p, p < np ∧ σ 5 k = nI p := h.2.2.2.2.2.2.2.2.2.2.2.2.2.2.2.2.2.2.2.2.2.2.2.2.2.2.2.2.2.2.2.2.2.2.2.2.2.1
theorem Iv.lk {np nl ng B x : Nat} {σ ρ : mSt} (h : Iv np nl ng B x σ ρ) : ∀ k, k < nl → σ 9 k = 0 ∨ σ 9 k = 1 ∨ σ 9 k = 2 := h.2.2.2.2.2.2.2.2.2.2.2.2.2.2.2.2.2.2.2.2.2.2.2.2.2.2.2.2.2.2.2.2.2.2.2.2.2.2.1
theorem Iv.lu {np nl ng B x : Nat} {σ ρ : mSt} (h : Iv np nl ng B x σ ρ) : ∀ k, nl ≤ k → k < 20 → σ 9 k = -1 := h.2.2.2.2.2.2.2.2.2.2.2.2.2.2.2.2.2.2.2.2.2.2.2.2.2.2.2.2.2.2.2.2.2.2.2.2.2.2.2.1
theorem Iv.gk {np nl ng B x : Nat} {σ ρ : mSt} (h : Iv np nl ng B x σ ρ) : ∀ g, g < ng → σ 17 g = 0 ∨ σ 17 g = 1 ∨ σ 17 g = 2 ∨ σ 17 g = 3 := h.2.2.2.2.2.2.2.2.2.2.2.2.2.2.2.2.2.2.2.2.2.2.2.2.2.2.2.2.2.2.2.2.2.2.2.2.2.2.2.2.1
theorem Iv.gu {np nl ng B x : Nat} {σ ρ : mSt} (h : Iv np nl ng B x σ ρ) : ∀ g, ng ≤ g → g < 16 → σ 17 g = -1 := h.2.2.2.2.2.2.2.2.2.2.2.2.2.2.2.2.2.2.2.2.2.2.2.2.2.2.2.2.2.2.2.2.2.2.2.2.2.2.2.2.2.1
theorem Iv.tu {np nl ng B x : Nat} {σ ρ : mSt} (h : Iv np nl ng B x σ ρ) : ∀ g, g < ng → σ 14 g = 0 ∨ σ 14 g = 1 := h.2.2.2.2.2.2.2.2.2.2.2.2.2.2.2.2.2.2.2.2.2.2.2.2.2.2.2.2.2.2.2.2.2.2.2.2.2.2.2.2.2.2.1
theorem Iv.b1 {np nl ng B x : Nat} {σ ρ : mSt} (h : Iv np nl ng B x σ ρ) : ∀ p, p < np → 0 ≤ (σ 1 p).toInt ∧ (σ 1 p).toInt ≤ B := h.2.2.2.2.2.2.2.2.2.2.2.2.2.2.2.2.2.2.2.2.2.2.2.2.2.2.2.2.2.2.2.2.2.2.2.2.2.2.2.2.2.2.2.1
theorem Iv.b2 {np nl ng B x : Nat} {σ ρ : mSt} (h : Iv np nl ng B x σ ρ) : ∀ p, p < np → 0 ≤ (σ 2 p).toInt ∧ (σ 2 p).toInt ≤ B := h.2.2.2.2.2.2.2.2.2.2.2.2.2.2.2.2.2.2.2.2.2.2.2.2.2.2.2.2.2.2.2.2.2.2.2.2.2.2.2.2.2.2.2.2.1
theorem Iv.b3 {np nl ng B x : Nat} {σ ρ : mSt} (h : Iv np nl ng B x σ ρ) : ∀ p, p < np → 0 ≤ (σ 3 p).toInt ∧ (σ 3 p).toInt ≤ B := h.2.2.2.2.2.2.2.2.2.2.2.2.2.2.2.2.2.2.2.2.2.2.2.2.2.2.2.2.2.2.2.2.2.2.2.2.2.2.2.2.2.2.2.2.2.1
theorem Iv.b6 {np nl ng B x : Nat} {σ ρ : mSt} (h : Iv np nl ng B x σ ρ) : ∀ k, k < nl → 0 ≤ (σ 6 k).toInt ∧ (σ 6 k).toInt ≤ 1000000 := h.2.2.2.2.2.2.2.2.2.2.2.2.2.2.2.2.2.2.2.2.2.2.2.2.2.2.2.2.2.2.2.2.2.2.2.2.2.2.2.2.2.2.2.2.2.2.1
theorem Iv.b7 {np nl ng B x : Nat} {σ ρ : mSt} (h : Iv np nl ng B x σ ρ) : ∀ k, k < nl → 0 ≤ (σ 7 k).toInt ∧ (σ 7 k).toInt ≤ 100 := h.2.2.2.2.2.2.2.2.2.2.2.2.2.2.2.2.2.2.2.2.2.2.2.2.2.2.2.2.2.2.2.2.2.2.2.2.2.2.2.2.2.2.2.2.2.2.2.1
theorem Iv.b11 {np nl ng B x : Nat} {σ ρ : mSt} (h : Iv np nl ng B x σ ρ) : ∀ g, g < ng → 0 ≤ (σ 11 g).toInt ∧ (σ 11 g).toInt ≤ 30 := h.2.2.2.2.2.2.2.2.2.2.2.2.2.2.2.2.2.2.2.2.2.2.2.2.2.2.2.2.2.2.2.2.2.2.2.2.2.2.2.2.2.2.2.2.2.2.2.2.1
theorem Iv.b12 {np nl ng B x : Nat} {σ ρ : mSt} (h : Iv np nl ng B x σ ρ) : ∀ g, g < ng → 0 ≤ (σ 12 g).toInt ∧ (σ 12 g).toInt ≤ 30 := h.2.2.2.2.2.2.2.2.2.2.2.2.2.2.2.2.2.2.2.2.2.2.2.2.2.2.2.2.2.2.2.2.2.2.2.2.2.2.2.2.2.2.2.2.2.2.2.2.2.1
theorem Iv.b16 {np nl ng B x : Nat} {σ ρ : mSt} (h : Iv np nl ng B x σ ρ) : ∀ g, g < ng → 0 ≤ (σ 16 g).toInt ∧ (σ 16 g).toInt ≤ B := h.2.2.2.2.2.2.2.2.2.2.2.2.2.2.2.2.2.2.2.2.2.2.2.2.2.2.2.2.2.2.2.2.2.2.2.2.2.2.2.2.2.2.2.2.2.2.2.2.2.2.1
theorem Iv.b19 {np nl ng B x : Nat} {σ ρ : mSt} (h : Iv np nl ng B x σ ρ) : ∀ g, g < ng → g ≠ x → σ 17 g = 0 → 1 ≤ (σ 19 (2 * g)).toInt ∧ 1 ≤ (σ 19 (2 * g + 1)).toInt ∧ (σ 19 (2 * g)).toInt + (σ 19 (2 * g + 1)).toInt ≤ 14400 + B := h.2.2.2.2.2.2.2.2.2.2.2.2.2.2.2.2.2.2.2.2.2.2.2.2.2.2.2.2.2.2.2.2.2.2.2.2.2.2.2.2.2.2.2.2.2.2.2.2.2.2.2.1
theorem Iv.b20 {np nl ng B x : Nat} {σ ρ : mSt} (h : Iv np nl ng B x σ ρ) : ∀ i, i < 2 * ng → 0 ≤ (σ 20 i).toInt ∧ (σ 20 i).toInt ≤ B := h.2.2.2.2.2.2.2.2.2.2.2.2.2.2.2.2.2.2.2.2.2.2.2.2.2.2.2.2.2.2.2.2.2.2.2.2.2.2.2.2.2.2.2.2.2.2.2.2.2.2.2.2.1
theorem Iv.u1 {np nl ng B x : Nat} {σ ρ : mSt} (h : Iv np nl ng B x σ ρ) : ∀ p, np ≤ p → p < 8 → σ 1 p = 0 ∧ ρ 1 p = 0 := h.2.2.2.2.2.2.2.2.2.2.2.2.2.2.2.2.2.2.2.2.2.2.2.2.2.2.2.2.2.2.2.2.2.2.2.2.2.2.2.2.2.2.2.2.2.2.2.2.2.2.2.2.2.1
theorem Iv.u2 {np nl ng B x : Nat} {σ ρ : mSt} (h : Iv np nl ng B x σ ρ) : ∀ p, np ≤ p → p < 8 → σ 2 p = 0 ∧ ρ 2 p = 0 := h.2.2.2.2.2.2.2.2.2.2.2.2.2.2.2.2.2.2.2.2.2.2.2.2.2.2.2.2.2.2.2.2.2.2.2.2.2.2.2.2.2.2.2.2.2.2.2.2.2.2.2.2.2.2.1
theorem Iv.u3 {np nl ng B x : Nat} {σ ρ : mSt} (h : Iv np nl ng B x σ ρ) : ∀ p, np ≤ p → p < 8 → σ 3 p = 0 ∧ ρ 3 p = 0 := h.2.2.2.2.2.2.2.2.2.2.2.2.2.2.2.2.2.2.2.2.2.2.2.2.2.2.2.2.2.2.2.2.2.2.2.2.2.2.2.2.2.2.2.2.2.2.2.2.2.2.2.2.2.2.2.1
theorem Iv.u4 {np nl ng B x : Nat} {σ ρ : mSt} (h : Iv np nl ng B x σ ρ) : ∀ p, np ≤ p → p < 8 → σ 4 p = 0 ∧ ρ 4 p = 0 := h.2.2.2.2.2.2.2.2.2.2.2.2.2.2.2.2.2.2.2.2.2.2.2.2.2.2.2.2.2.2.2.2.2.2.2.2.2.2.2.2.2.2.2.2.2.2.2.2.2.2.2.2.2.2.2.2.1
theorem Iv.v7 {np nl ng B x : Nat} {σ ρ : mSt} (h : Iv np nl ng B x σ ρ) : ∀ i, 2 * ng ≤ i → i < 32 → ρ 7 i = 0 := h.2.2.2.2.2.2.2.2.2.2.2.2.2.2.2.2.2.2.2.2.2.2.2.2.2.2.2.2.2.2.2.2.2.2.2.2.2.2.2.2.2.2.2.2.2.2.2.2.2.2.2.2.2.2.2.2.2.1
theorem Iv.v11 {np nl ng B x : Nat} {σ ρ : mSt} (h : Iv np nl ng B x σ ρ) : ∀ g, ng ≤ g → g < 16 → ρ 11 g = 0 := h.2.2.2.2.2.2.2.2.2.2.2.2.2.2.2.2.2.2.2.2.2.2.2.2.2.2.2.2.2.2.2.2.2.2.2.2.2.2.2.2.2.2.2.2.2.2.2.2.2.2.2.2.2.2.2.2.2.2.1
theorem Iv.v12 {np nl ng B x : Nat} {σ ρ : mSt} (h : Iv np nl ng B x σ ρ) : ∀ g, ng ≤ g → g < 16 → ρ 12 g = 0 := h.2.2.2.2.2.2.2.2.2.2.2.2.2.2.2.2.2.2.2.2.2.2.2.2.2.2.2.2.2.2.2.2.2.2.2.2.2.2.2.2.2.2.2.2.2.2.2.2.2.2.2.2.2.2.2.2.2.2.2.1
theorem Iv.v13 {np nl ng B x : Nat} {σ ρ : mSt} (h : Iv np nl ng B x σ ρ) : ∀ g, ng ≤ g → g < 16 → ρ 13 g = 0 := h.2.2.2.2.2.2.2.2.2.2.2.2.2.2.2.2.2.2.2.2.2.2.2.2.2.2.2.2.2.2.2.2.2.2.2.2.2.2.2.2.2.2.2.2.2.2.2.2.2.2.2.2.2.2.2.2.2.2.2.2.1
theorem Iv.v14 {np nl ng B x : Nat} {σ ρ : mSt} (h : Iv np nl ng B x σ ρ) : ∀ g, ng ≤ g → g < 16 → ρ 14 g = 0 := h.2.2.2.2.2.2.2.2.2.2.2.2.2.2.2.2.2.2.2.2.2.2.2.2.2.2.2.2.2.2.2.2.2.2.2.2.2.2.2.2.2.2.2.2.2.2.2.2.2.2.2.2.2.2.2.2.2.2.2.2.2
theorem iv_0 {np nl ng B x : Nat} {σ ρ : mSt} (h : Iv np nl ng B x σ ρ) (p : Nat) (v : Int32) : Iv np nl ng B x (mUp σ 0 p v) (mUp ρ 0 p v) := by
  exact ⟨h.hp, h.hl, h.hg, h.c21, h.c22, h.c23, h.d21, h.d23, h.d22, h.tm, h.rs, h.bk, h.ou, h.ca, fun q hq => mUp_eq rfl (fun _ => h.e0 q hq), h.e1, h.e2, h.e3, h.e4, h.e15, h.e16, h.e17, h.e18, h.e19, h.e8, h.e9, h.e10, h.e11, h.e12, h.e13, h.e14, h.e5, h.e6, h.e7, h.nu, h.pl, h.ne, h.bo, h.lk, h.lu, h.gk, h.gu, h.tu, h.b1, h.b2, h.b3, h.b6, h.b7, h.b11, h.b12, h.b16, h.b19, h.b20, h.u1, h.u2, h.u3, h.u4, h.v7, h.v11, h.v12, h.v13, h.v14⟩
theorem iv_1 {np nl ng B x : Nat} {σ ρ : mSt} (h : Iv np nl ng B x σ ρ) {p : Nat} {v : Int32} (hp : p < np) (hv : 0 ≤ v.toInt ∧ v.toInt ≤ B) : Iv np nl ng B x (mUp σ 1 p v) (mUp ρ 1 p v) := by
  exact ⟨h.hp, h.hl, h.hg, h.c21, h.c22, h.c23, h.d21, h.d23, h.d22, h.tm, h.rs, h.bk, h.ou, h.ca, h.e0, fun q hq => mUp_eq rfl (fun _ => h.e1 q hq), h.e2, h.e3, h.e4, h.e15, h.e16, h.e17, h.e18, h.e19, h.e8, h.e9, h.e10, h.e11, h.e12, h.e13, h.e14, h.e5, h.e6, h.e7, h.nu, h.pl, h.ne, h.bo, h.lk, h.lu, h.gk, h.gu, h.tu, fun q hq => mUp_all (fun z => 0 ≤ z.toInt ∧ z.toInt ≤ B) (fun _ => hv) (fun _ => h.b1 q hq), h.b2, h.b3, h.b6, h.b7, h.b11, h.b12, h.b16, h.b19, h.b20, fun q h1 h2 => ⟨(uO (by omega)).trans (h.u1 q h1 h2).1, (uO (by omega)).trans (h.u1 q h1 h2).2⟩, h.u2, h.u3, h.u4, h.v7, h.v11, h.v12, h.v13, h.v14⟩
theorem iv_2 {np nl ng B x : Nat} {σ ρ : mSt} (h : Iv np nl ng B x σ ρ) {p : Nat} {v : Int32} (hp : p < np) (hv : 0 ≤ v.toInt ∧ v.toInt ≤ B) : Iv np nl ng B x (mUp σ 2 p v) (mUp ρ 2 p v) := by
  exact ⟨h.hp, h.hl, h.hg, h.c21, h.c22, h.c23, h.d21, h.d23, h.d22, h.tm, h.rs, h.bk, h.ou, h.ca, h.e0, h.e1, fun q hq => mUp_eq rfl (fun _ => h.e2 q hq), h.e3, h.e4, h.e15, h.e16, h.e17, h.e18, h.e19, h.e8, h.e9, h.e10, h.e11, h.e12, h.e13, h.e14, h.e5, h.e6, h.e7, h.nu, h.pl, h.ne, h.bo, h.lk, h.lu, h.gk, h.gu, h.tu, h.b1, fun q hq => mUp_all (fun z => 0 ≤ z.toInt ∧ z.toInt ≤ B) (fun _ => hv) (fun _ => h.b2 q hq), h.b3, h.b6, h.b7, h.b11, h.b12, h.b16, h.b19, h.b20, h.u1, fun q h1 h2 => ⟨(uO (by omega)).trans (h.u2 q h1 h2).1, (uO (by omega)).trans (h.u2 q h1 h2).2⟩, h.u3, h.u4, h.v7, h.v11, h.v12, h.v13, h.v14⟩
theorem iv_3 {np nl ng B x : Nat} {σ ρ : mSt} (h : Iv np nl ng B x σ ρ) {p : Nat} {v : Int32} (hp : p < np) (hv : 0 ≤ v.toInt ∧ v.toInt ≤ B) : Iv np nl ng B x (mUp σ 3 p v) (mUp ρ 3 p v) := by
  exact ⟨h.hp, h.hl, h.hg, h.c21, h.c22, h.c23, h.d21, h.d23, h.d22, h.tm, h.rs, h.bk, h.ou, h.ca, h.e0, h.e1, h.e2, fun q hq => mUp_eq rfl (fun _ => h.e3 q hq), h.e4, h.e15, h.e16, h.e17, h.e18, h.e19, h.e8, h.e9, h.e10, h.e11, h.e12, h.e13, h.e14, h.e5, h.e6, h.e7, h.nu, h.pl, h.ne, h.bo, h.lk, h.lu, h.gk, h.gu, h.tu, h.b1, h.b2, fun q hq => mUp_all (fun z => 0 ≤ z.toInt ∧ z.toInt ≤ B) (fun _ => hv) (fun _ => h.b3 q hq), h.b6, h.b7, h.b11, h.b12, h.b16, h.b19, h.b20, h.u1, h.u2, fun q h1 h2 => ⟨(uO (by omega)).trans (h.u3 q h1 h2).1, (uO (by omega)).trans (h.u3 q h1 h2).2⟩, h.u4, h.v7, h.v11, h.v12, h.v13, h.v14⟩
theorem iv_4 {np nl ng B x : Nat} {σ ρ : mSt} (h : Iv np nl ng B x σ ρ) {p : Nat} (hp : p < np) : Iv np nl ng B x (mUp (mUp σ 4 p (σ 4 p + 1)) 27 0 (σ 27 0 + 1)) (mUp ρ 4 p (ρ 4 p + 1)) := by
  exact ⟨h.hp, h.hl, h.hg, h.c21, h.c22, h.c23, h.d21, h.d23, h.d22, h.tm, h.rs, h.bk, h.ou, (show σ 27 0 + 1 = sI np (mUp σ 4 p (σ 4 p + 1) 4) by rw [sI_up hp, ← h.ca, Int32.add_comm (σ 4 p) 1, Int32.add_sub_cancel]), h.e0, h.e1, h.e2, h.e3, fun q hq => mUp_eq (by rw [h.e4 p hp]) (fun _ => h.e4 q hq), h.e15, h.e16, h.e17, h.e18, h.e19, h.e8, h.e9, h.e10, h.e11, h.e12, h.e13, h.e14, h.e5, h.e6, h.e7, h.nu, h.pl, h.ne, h.bo, h.lk, h.lu, h.gk, h.gu, h.tu, h.b1, h.b2, h.b3, h.b6, h.b7, h.b11, h.b12, h.b16, h.b19, h.b20, h.u1, h.u2, h.u3, fun q h1 h2 => ⟨(show mUp σ 4 p (σ 4 p + 1) 4 q = 0 from (uO (by omega)).trans (h.u4 q h1 h2).1), (uO (by omega)).trans (h.u4 q h1 h2).2⟩, h.v7, h.v11, h.v12, h.v13, h.v14⟩
theorem iv_26 {np nl ng B x : Nat} {σ ρ : mSt} (h : Iv np nl ng B x σ ρ) (v : Int32) : Iv np nl ng B x (mUp σ 26 0 v) (mUp ρ 25 0 v) := by
  exact ⟨h.hp, h.hl, h.hg, h.c21, h.c22, h.c23, h.d21, h.d23, h.d22, h.tm, h.rs, uS.trans uS.symm, h.ou, h.ca, h.e0, h.e1, h.e2, h.e3, h.e4, h.e15, h.e16, h.e17, h.e18, h.e19, h.e8, h.e9, h.e10, h.e11, h.e12, h.e13, h.e14, h.e5, h.e6, h.e7, h.nu, h.pl, h.ne, h.bo, h.lk, h.lu, h.gk, h.gu, h.tu, h.b1, h.b2, h.b3, h.b6, h.b7, h.b11, h.b12, h.b16, h.b19, h.b20, h.u1, h.u2, h.u3, h.u4, h.v7, h.v11, h.v12, h.v13, h.v14⟩
theorem iv_25 {np nl ng B x : Nat} {σ ρ : mSt} (h : Iv np nl ng B x σ ρ) (v : Int32) : Iv np nl ng B x (mUp σ 25 0 v) (mUp (mUp ρ 24 0 v) 26 0 (100000 - v)) := by
  exact ⟨h.hp, h.hl, h.hg, h.c21, h.c22, h.c23, h.d21, h.d23, h.d22, h.tm, (show mUp ρ 24 0 v 24 0 = mUp σ 25 0 v 25 0 from uS.trans uS.symm), h.bk, (show mUp (mUp ρ 24 0 v) 26 0 (100000 - v) 26 0 = 100000 - mUp σ 25 0 v 25 0 by rw [uS, uS]), h.ca, h.e0, h.e1, h.e2, h.e3, h.e4, h.e15, h.e16, h.e17, h.e18, h.e19, h.e8, h.e9, h.e10, h.e11, h.e12, h.e13, h.e14, h.e5, h.e6, h.e7, h.nu, h.pl, h.ne, h.bo, h.lk, h.lu, h.gk, h.gu, h.tu, h.b1, h.b2, h.b3, h.b6, h.b7, h.b11, h.b12, h.b16, h.b19, h.b20, h.u1, h.u2, h.u3, h.u4, h.v7, h.v11, h.v12, h.v13, h.v14⟩
theorem iv_24 {np nl ng B x : Nat} {σ ρ : mSt} (h : Iv np nl ng B x σ ρ) (v : Int32) : Iv np nl ng B x (mUp σ 24 0 v) (mUp ρ 20 0 v) := by
  exact ⟨h.hp, h.hl, h.hg, h.c21, h.c22, h.c23, h.d21, h.d23, h.d22, uS.trans uS.symm, h.rs, h.bk, h.ou, h.ca, h.e0, h.e1, h.e2, h.e3, h.e4, h.e15, h.e16, h.e17, h.e18, h.e19, h.e8, h.e9, h.e10, h.e11, h.e12, h.e13, h.e14, h.e5, h.e6, h.e7, h.nu, h.pl, h.ne, h.bo, h.lk, h.lu, h.gk, h.gu, h.tu, h.b1, h.b2, h.b3, h.b6, h.b7, h.b11, h.b12, h.b16, h.b19, h.b20, h.u1, h.u2, h.u3, h.u4, h.v7, h.v11, h.v12, h.v13, h.v14⟩
theorem iv_6 {np nl ng B x : Nat} {σ ρ : mSt} (h : Iv np nl ng B x σ ρ) {k : Nat} {v : Int32} (hk : k < nl) (hv : 0 ≤ v.toInt ∧ v.toInt ≤ 1000000) : Iv np nl ng B x (mUp σ 6 k v) (mUp ρ 16 k v) := by
  exact ⟨h.hp, h.hl, h.hg, h.c21, h.c22, h.c23, h.d21, h.d23, h.d22, h.tm, h.rs, h.bk, h.ou, h.ca, h.e0, h.e1, h.e2, h.e3, h.e4, h.e15, fun q hq => mUp_eq rfl (fun _ => h.e16 q hq), h.e17, h.e18, h.e19, h.e8, h.e9, h.e10, h.e11, h.e12, h.e13, h.e14, h.e5, h.e6, h.e7, h.nu, h.pl, h.ne, h.bo, h.lk, h.lu, h.gk, h.gu, h.tu, h.b1, h.b2, h.b3, fun q hq => mUp_all (fun z => 0 ≤ z.toInt ∧ z.toInt ≤ 1000000) (fun _ => hv) (fun _ => h.b6 q hq), h.b7, h.b11, h.b12, h.b16, h.b19, h.b20, h.u1, h.u2, h.u3, h.u4, h.v7, h.v11, h.v12, h.v13, h.v14⟩
theorem iv_9 {np nl ng B x : Nat} {σ ρ : mSt} (h : Iv np nl ng B x σ ρ) {k : Nat} {v : Int32} (hk : k < nl) (hv : v = 0 ∨ v = 1 ∨ v = 2) : Iv np nl ng B x (mUp σ 9 k v) (mUp ρ 19 k v) := by
  exact ⟨h.hp, h.hl, h.hg, h.c21, h.c22, h.c23, h.d21, h.d23, h.d22, h.tm, h.rs, h.bk, h.ou, h.ca, h.e0, h.e1, h.e2, h.e3, h.e4, h.e15, h.e16, h.e17, h.e18, fun q hq => mUp_eq rfl (fun _ => h.e19 q hq), h.e8, h.e9, h.e10, h.e11, h.e12, h.e13, h.e14, h.e5, h.e6, h.e7, h.nu, h.pl, h.ne, h.bo, fun q hq => mUp_all (fun z => z = 0 ∨ z = 1 ∨ z = 2) (fun _ => hv) (fun _ => h.lk q hq), fun q h1 h2 => (uO (by omega)).trans (h.lu q h1 h2), h.gk, h.gu, h.tu, h.b1, h.b2, h.b3, h.b6, h.b7, h.b11, h.b12, h.b16, h.b19, h.b20, h.u1, h.u2, h.u3, h.u4, h.v7, h.v11, h.v12, h.v13, h.v14⟩
theorem iv_17 {np nl ng B x : Nat} {σ ρ : mSt} (h : Iv np nl ng B x σ ρ) {x9 g : Nat} {v : Int32} (hgg : g < ng) (hv : v = 1 ∨ v = 2 ∨ v = 3) (hx : ∀ q, q < ng → q ≠ x9 → q ≠ g → q ≠ x) : Iv np nl ng B x9 (mUp σ 17 g v) (mUp ρ 14 g v) := by
  exact ⟨h.hp, h.hl, h.hg, h.c21, h.c22, h.c23, h.d21, h.d23, h.d22, h.tm, h.rs, h.bk, h.ou, h.ca, h.e0, h.e1, h.e2, h.e3, h.e4, h.e15, h.e16, h.e17, h.e18, h.e19, h.e8, h.e9, h.e10, h.e11, h.e12, h.e13, fun q hq => mUp_eq rfl (fun _ => h.e14 q hq), h.e5, h.e6, h.e7, h.nu, h.pl, h.ne, h.bo, h.lk, h.lu, fun q hq => mUp_all (fun z => z = 0 ∨ z = 1 ∨ z = 2 ∨ z = 3) (fun _ => Or.inr hv) (fun _ => h.gk q hq), fun q h1 h2 => (uO (by omega)).trans (h.gu q h1 h2), h.tu, h.b1, h.b2, h.b3, h.b6, h.b7, h.b11, h.b12, h.b16, fun q hq h1 h2 => by
    by_cases e : q = g
    · subst e
      rw [uS] at h2
      rcases hv with rfl | rfl | rfl <;> exact absurd h2 (by decide)
    · rw [uO e] at h2
      exact h.b19 q hq (hx q hq h1 e) h2, h.b20, h.u1, h.u2, h.u3, h.u4, h.v7, h.v11, h.v12, h.v13, fun q h1 h2 => (uO (by omega)).trans (h.v14 q h1 h2)⟩
theorem iv_14 {np nl ng B x : Nat} {σ ρ : mSt} (h : Iv np nl ng B x σ ρ) {g : Nat} {v : Int32} (hgg : g < ng) (hv : v = 0 ∨ v = 1) : Iv np nl ng B x (mUp σ 14 g v) (mUp ρ 11 g v) := by
  exact ⟨h.hp, h.hl, h.hg, h.c21, h.c22, h.c23, h.d21, h.d23, h.d22, h.tm, h.rs, h.bk, h.ou, h.ca, h.e0, h.e1, h.e2, h.e3, h.e4, h.e15, h.e16, h.e17, h.e18, h.e19, h.e8, h.e9, h.e10, fun q hq => mUp_eq rfl (fun _ => h.e11 q hq), h.e12, h.e13, h.e14, h.e5, h.e6, h.e7, h.nu, h.pl, h.ne, h.bo, h.lk, h.lu, h.gk, h.gu, fun q hq => mUp_all (fun z => z = 0 ∨ z = 1) (fun _ => hv) (fun _ => h.tu q hq), h.b1, h.b2, h.b3, h.b6, h.b7, h.b11, h.b12, h.b16, h.b19, h.b20, h.u1, h.u2, h.u3, h.u4, h.v7, fun q h1 h2 => (uO (by omega)).trans (h.v11 q h1 h2), h.v12, h.v13, h.v14⟩
theorem iv_15 {np nl ng B x : Nat} {σ ρ : mSt} (h : Iv np nl ng B x σ ρ) {g : Nat} (v : Int32) (hgg : g < ng) : Iv np nl ng B x (mUp σ 15 g v) (mUp ρ 12 g v) := by
  exact ⟨h.hp, h.hl, h.hg, h.c21, h.c22, h.c23, h.d21, h.d23, h.d22, h.tm, h.rs, h.bk, h.ou, h.ca, h.e0, h.e1, h.e2, h.e3, h.e4, h.e15, h.e16, h.e17, h.e18, h.e19, h.e8, h.e9, h.e10, h.e11, fun q hq => mUp_eq rfl (fun _ => h.e12 q hq), h.e13, h.e14, h.e5, h.e6, h.e7, h.nu, h.pl, h.ne, h.bo, h.lk, h.lu, h.gk, h.gu, h.tu, h.b1, h.b2, h.b3, h.b6, h.b7, h.b11, h.b12, h.b16, h.b19, h.b20, h.u1, h.u2, h.u3, h.u4, h.v7, h.v11, fun q h1 h2 => (uO (by omega)).trans (h.v12 q h1 h2), h.v13, h.v14⟩
theorem iv_16 {np nl ng B x : Nat} {σ ρ : mSt} (h : Iv np nl ng B x σ ρ) {g : Nat} {v : Int32} (hgg : g < ng) (hv : 0 ≤ v.toInt ∧ v.toInt ≤ B) : Iv np nl ng B x (mUp σ 16 g v) (mUp ρ 13 g v) := by
  exact ⟨h.hp, h.hl, h.hg, h.c21, h.c22, h.c23, h.d21, h.d23, h.d22, h.tm, h.rs, h.bk, h.ou, h.ca, h.e0, h.e1, h.e2, h.e3, h.e4, h.e15, h.e16, h.e17, h.e18, h.e19, h.e8, h.e9, h.e10, h.e11, h.e12, fun q hq => mUp_eq rfl (fun _ => h.e13 q hq), h.e14, h.e5, h.e6, h.e7, h.nu, h.pl, h.ne, h.bo, h.lk, h.lu, h.gk, h.gu, h.tu, h.b1, h.b2, h.b3, h.b6, h.b7, h.b11, h.b12, fun q hq => mUp_all (fun z => 0 ≤ z.toInt ∧ z.toInt ≤ B) (fun _ => hv) (fun _ => h.b16 q hq), h.b19, h.b20, h.u1, h.u2, h.u3, h.u4, h.v7, h.v11, h.v12, fun q h1 h2 => (uO (by omega)).trans (h.v13 q h1 h2), h.v14⟩
theorem iv_19a {np nl ng B x : Nat} {σ ρ : mSt} (h : Iv np nl ng B x σ ρ) {x9 g : Nat} {v : Int32} (hx9 : ∀ q, q < ng → q ≠ x9 → q ≠ x) (hv : g ≠ x9 → g < ng → σ 17 g = 0 → 1 ≤ v.toInt ∧ v.toInt + (σ 19 (2 * g + 1)).toInt ≤ 14400 + B) : Iv np nl ng B x9 (mUp σ 19 (2 * g) v) (mUp ρ 6 (2 * g) v) := by
  exact ⟨h.hp, h.hl, h.hg, h.c21, h.c22, h.c23, h.d21, h.d23, h.d22, h.tm, h.rs, h.bk, h.ou, h.ca, h.e0, h.e1, h.e2, h.e3, h.e4, h.e15, h.e16, h.e17, h.e18, h.e19, h.e8, h.e9, h.e10, h.e11, h.e12, h.e13, h.e14, h.e5, fun q hq => mUp_eq rfl (fun _ => h.e6 q hq), h.e7, h.nu, h.pl, h.ne, h.bo, h.lk, h.lu, h.gk, h.gu, h.tu, h.b1, h.b2, h.b3, h.b6, h.b7, h.b11, h.b12, h.b16, fun q hq h1 h2 => by
    by_cases e : q = g
    · subst e
      have a := hv h1 hq h2
      have b := h.b19 q hq (hx9 q hq h1) h2
      rw [uS, uO (by omega)]
      omega
    · rw [uO (by omega), uO (by omega)]
      exact h.b19 q hq (hx9 q hq h1) h2, h.b20, h.u1, h.u2, h.u3, h.u4, h.v7, h.v11, h.v12, h.v13, h.v14⟩
theorem iv_19b {np nl ng B x : Nat} {σ ρ : mSt} (h : Iv np nl ng B x σ ρ) {x9 g : Nat} {v : Int32} (hx9 : ∀ q, q < ng → q ≠ x9 → q ≠ x) (hv : g ≠ x9 → g < ng → σ 17 g = 0 → 1 ≤ v.toInt ∧ (σ 19 (2 * g)).toInt + v.toInt ≤ 14400 + B) : Iv np nl ng B x9 (mUp σ 19 (2 * g + 1) v) (mUp ρ 6 (2 * g + 1) v) := by
  exact ⟨h.hp, h.hl, h.hg, h.c21, h.c22, h.c23, h.d21, h.d23, h.d22, h.tm, h.rs, h.bk, h.ou, h.ca, h.e0, h.e1, h.e2, h.e3, h.e4, h.e15, h.e16, h.e17, h.e18, h.e19, h.e8, h.e9, h.e10, h.e11, h.e12, h.e13, h.e14, h.e5, fun q hq => mUp_eq rfl (fun _ => h.e6 q hq), h.e7, h.nu, h.pl, h.ne, h.bo, h.lk, h.lu, h.gk, h.gu, h.tu, h.b1, h.b2, h.b3, h.b6, h.b7, h.b11, h.b12, h.b16, fun q hq h1 h2 => by
    by_cases e : q = g
    · subst e
      have a := hv h1 hq h2
      have b := h.b19 q hq (hx9 q hq h1) h2
      rw [uS, uO (show 2 * q ≠ 2 * q + 1 by omega)]
      omega
    · rw [uO (by omega), uO (by omega)]
      exact h.b19 q hq (hx9 q hq h1) h2, h.b20, h.u1, h.u2, h.u3, h.u4, h.v7, h.v11, h.v12, h.v13, h.v14⟩
theorem iv_20 {np nl ng B x : Nat} {σ ρ : mSt} (h : Iv np nl ng B x σ ρ) {i : Nat} {v : Int32} (hi : i < 2 * ng) (hv : 0 ≤ v.toInt ∧ v.toInt ≤ B) : Iv np nl ng B x (mUp σ 20 i v) (mUp ρ 7 i v) := by
  exact ⟨h.hp, h.hl, h.hg, h.c21, h.c22, h.c23, h.d21, h.d23, h.d22, h.tm, h.rs, h.bk, h.ou, h.ca, h.e0, h.e1, h.e2, h.e3, h.e4, h.e15, h.e16, h.e17, h.e18, h.e19, h.e8, h.e9, h.e10, h.e11, h.e12, h.e13, h.e14, h.e5, h.e6, fun q hq => mUp_eq rfl (fun _ => h.e7 q hq), h.nu, h.pl, h.ne, h.bo, h.lk, h.lu, h.gk, h.gu, h.tu, h.b1, h.b2, h.b3, h.b6, h.b7, h.b11, h.b12, h.b16, h.b19, fun q hq => mUp_all (fun z => 0 ≤ z.toInt ∧ z.toInt ≤ B) (fun _ => hv) (fun _ => h.b20 q hq), h.u1, h.u2, h.u3, h.u4, fun q h1 h2 => (uO (by omega)).trans (h.v7 q h1 h2), h.v11, h.v12, h.v13, h.v14⟩
theorem iv_28 {np nl ng B x : Nat} {σ ρ : mSt} (h : Iv np nl ng B x σ ρ) (v : Int32) : Iv np nl ng B x (mUp σ 28 0 v) ρ := by
  exact ⟨h.hp, h.hl, h.hg, h.c21, h.c22, h.c23, h.d21, h.d23, h.d22, h.tm, h.rs, h.bk, h.ou, h.ca, h.e0, h.e1, h.e2, h.e3, h.e4, h.e15, h.e16, h.e17, h.e18, h.e19, h.e8, h.e9, h.e10, h.e11, h.e12, h.e13, h.e14, h.e5, h.e6, h.e7, h.nu, h.pl, h.ne, h.bo, h.lk, h.lu, h.gk, h.gu, h.tu, h.b1, h.b2, h.b3, h.b6, h.b7, h.b11, h.b12, h.b16, h.b19, h.b20, h.u1, h.u2, h.u3, h.u4, h.v7, h.v11, h.v12, h.v13, h.v14⟩
theorem iv_29 {np nl ng B x : Nat} {σ ρ : mSt} (h : Iv np nl ng B x σ ρ) (v : Int32) : Iv np nl ng B x (mUp σ 29 0 v) ρ := by
  exact ⟨h.hp, h.hl, h.hg, h.c21, h.c22, h.c23, h.d21, h.d23, h.d22, h.tm, h.rs, h.bk, h.ou, h.ca, h.e0, h.e1, h.e2, h.e3, h.e4, h.e15, h.e16, h.e17, h.e18, h.e19, h.e8, h.e9, h.e10, h.e11, h.e12, h.e13, h.e14, h.e5, h.e6, h.e7, h.nu, h.pl, h.ne, h.bo, h.lk, h.lu, h.gk, h.gu, h.tu, h.b1, h.b2, h.b3, h.b6, h.b7, h.b11, h.b12, h.b16, h.b19, h.b20, h.u1, h.u2, h.u3, h.u4, h.v7, h.v11, h.v12, h.v13, h.v14⟩
theorem iv_30 {np nl ng B x : Nat} {σ ρ : mSt} (h : Iv np nl ng B x σ ρ) (v : Int32) : Iv np nl ng B x (mUp σ 30 0 v) ρ := by
  exact ⟨h.hp, h.hl, h.hg, h.c21, h.c22, h.c23, h.d21, h.d23, h.d22, h.tm, h.rs, h.bk, h.ou, h.ca, h.e0, h.e1, h.e2, h.e3, h.e4, h.e15, h.e16, h.e17, h.e18, h.e19, h.e8, h.e9, h.e10, h.e11, h.e12, h.e13, h.e14, h.e5, h.e6, h.e7, h.nu, h.pl, h.ne, h.bo, h.lk, h.lu, h.gk, h.gu, h.tu, h.b1, h.b2, h.b3, h.b6, h.b7, h.b11, h.b12, h.b16, h.b19, h.b20, h.u1, h.u2, h.u3, h.u4, h.v7, h.v11, h.v12, h.v13, h.v14⟩
theorem iv_31 {np nl ng B x : Nat} {σ ρ : mSt} (h : Iv np nl ng B x σ ρ) (v : Int32) : Iv np nl ng B x (mUp σ 31 0 v) ρ := by
  exact ⟨h.hp, h.hl, h.hg, h.c21, h.c22, h.c23, h.d21, h.d23, h.d22, h.tm, h.rs, h.bk, h.ou, h.ca, h.e0, h.e1, h.e2, h.e3, h.e4, h.e15, h.e16, h.e17, h.e18, h.e19, h.e8, h.e9, h.e10, h.e11, h.e12, h.e13, h.e14, h.e5, h.e6, h.e7, h.nu, h.pl, h.ne, h.bo, h.lk, h.lu, h.gk, h.gu, h.tu, h.b1, h.b2, h.b3, h.b6, h.b7, h.b11, h.b12, h.b16, h.b19, h.b20, h.u1, h.u2, h.u3, h.u4, h.v7, h.v11, h.v12, h.v13, h.v14⟩
theorem iv_B {np nl ng B x : Nat} {σ ρ : mSt} (h : Iv np nl ng B x σ ρ) {B9 : Nat} (hB : B ≤ B9) : Iv np nl ng B9 x σ ρ := by
  exact ⟨h.hp, h.hl, h.hg, h.c21, h.c22, h.c23, h.d21, h.d23, h.d22, h.tm, h.rs, h.bk, h.ou, h.ca, h.e0, h.e1, h.e2, h.e3, h.e4, h.e15, h.e16, h.e17, h.e18, h.e19, h.e8, h.e9, h.e10, h.e11, h.e12, h.e13, h.e14, h.e5, h.e6, h.e7, h.nu, h.pl, h.ne, h.bo, h.lk, h.lu, h.gk, h.gu, h.tu, fun q hq => ⟨(h.b1 q hq).1, by have := (h.b1 q hq).2; omega⟩, fun q hq => ⟨(h.b2 q hq).1, by have := (h.b2 q hq).2; omega⟩, fun q hq => ⟨(h.b3 q hq).1, by have := (h.b3 q hq).2; omega⟩, h.b6, h.b7, h.b11, h.b12, fun q hq => ⟨(h.b16 q hq).1, by have := (h.b16 q hq).2; omega⟩, fun q hq h1 h2 => by
    have := h.b19 q hq h1 h2
    omega, fun q hq => ⟨(h.b20 q hq).1, by have := (h.b20 q hq).2; omega⟩, h.u1, h.u2, h.u3, h.u4, h.v7, h.v11, h.v12, h.v13, h.v14⟩
theorem iv_x {np nl ng B x : Nat} {σ ρ : mSt} (h : Iv np nl ng B x σ ρ) {x9 : Nat} (hx : ∀ q, q < ng → q ≠ x9 → q ≠ x) : Iv np nl ng B x9 σ ρ := by
  exact ⟨h.hp, h.hl, h.hg, h.c21, h.c22, h.c23, h.d21, h.d23, h.d22, h.tm, h.rs, h.bk, h.ou, h.ca, h.e0, h.e1, h.e2, h.e3, h.e4, h.e15, h.e16, h.e17, h.e18, h.e19, h.e8, h.e9, h.e10, h.e11, h.e12, h.e13, h.e14, h.e5, h.e6, h.e7, h.nu, h.pl, h.ne, h.bo, h.lk, h.lu, h.gk, h.gu, h.tu, h.b1, h.b2, h.b3, h.b6, h.b7, h.b11, h.b12, h.b16, fun q hq h1 h2 => h.b19 q hq (hx q hq h1) h2, h.b20, h.u1, h.u2, h.u3, h.u4, h.v7, h.v11, h.v12, h.v13, h.v14⟩
theorem iv_newP {np nl ng B x : Nat} {σ ρ : mSt} (h : Iv np nl ng B x σ ρ) {v : Int32} (hn : np < 8) : Iv (np + 1) nl ng B x (mUp (mUp σ 0 np v) 21 0 (nI np + 1)) (mUp (mUp ρ 0 np v) 21 0 (nI np + 1)) := by
  exact ⟨hn, h.hl, h.hg, uS.trans (nI_1 np), h.c22, h.c23, uS.trans (nI_1 np), h.d23, h.d22, h.tm, h.rs, h.bk, h.ou, h.ca.trans (show sI np (σ 4) = sI np (σ 4) + σ 4 np by rw [(h.u4 np (Nat.le_refl _) hn).1, Int32.add_zero]), fun q hq => (show mUp ρ 0 np v 0 q = mUp σ 0 np v 0 q from mUp_eq rfl (fun e => h.e0 q (by omega))), fun q hq => (Nat.lt_or_eq_of_le (Nat.le_of_lt_succ hq)).elim (fun e => h.e1 q e) (fun e => by subst e; exact (h.u1 q (Nat.le_refl _) hn).2.trans (h.u1 q (Nat.le_refl _) hn).1.symm), fun q hq => (Nat.lt_or_eq_of_le (Nat.le_of_lt_succ hq)).elim (fun e => h.e2 q e) (fun e => by subst e; exact (h.u2 q (Nat.le_refl _) hn).2.trans (h.u2 q (Nat.le_refl _) hn).1.symm), fun q hq => (Nat.lt_or_eq_of_le (Nat.le_of_lt_succ hq)).elim (fun e => h.e3 q e) (fun e => by subst e; exact (h.u3 q (Nat.le_refl _) hn).2.trans (h.u3 q (Nat.le_refl _) hn).1.symm), fun q hq => (Nat.lt_or_eq_of_le (Nat.le_of_lt_succ hq)).elim (fun e => h.e4 q e) (fun e => by subst e; exact (h.u4 q (Nat.le_refl _) hn).2.trans (h.u4 q (Nat.le_refl _) hn).1.symm), h.e15, h.e16, h.e17, h.e18, h.e19, h.e8, h.e9, h.e10, h.e11, h.e12, h.e13, h.e14, h.e5, h.e6, h.e7, h.nu, fun i hi => (h.pl i hi).elim (fun p e => ⟨p, by omega, e.2⟩), h.ne, fun i hi => (h.bo i hi).elim (fun p e => ⟨p, by omega, e.2⟩), h.lk, h.lu, h.gk, h.gu, h.tu, fun q hq => (Nat.lt_or_eq_of_le (Nat.le_of_lt_succ hq)).elim (fun e => h.b1 q e) (fun e => by
    subst e
    show 0 ≤ (σ 1 q).toInt ∧ (σ 1 q).toInt ≤ B
    rw [(h.u1 q (Nat.le_refl _) hn).1]
    exact ⟨Int.le_refl _, Int.natCast_nonneg _⟩), fun q hq => (Nat.lt_or_eq_of_le (Nat.le_of_lt_succ hq)).elim (fun e => h.b2 q e) (fun e => by
    subst e
    show 0 ≤ (σ 2 q).toInt ∧ (σ 2 q).toInt ≤ B
    rw [(h.u2 q (Nat.le_refl _) hn).1]
    exact ⟨Int.le_refl _, Int.natCast_nonneg _⟩), fun q hq => (Nat.lt_or_eq_of_le (Nat.le_of_lt_succ hq)).elim (fun e => h.b3 q e) (fun e => by
    subst e
    show 0 ≤ (σ 3 q).toInt ∧ (σ 3 q).toInt ≤ B
    rw [(h.u3 q (Nat.le_refl _) hn).1]
    exact ⟨Int.le_refl _, Int.natCast_nonneg _⟩), h.b6, h.b7, h.b11, h.b12, h.b16, h.b19, h.b20, fun q h1 h2 => h.u1 q (by omega) h2, fun q h1 h2 => h.u2 q (by omega) h2, fun q h1 h2 => h.u3 q (by omega) h2, fun q h1 h2 => h.u4 q (by omega) h2, h.v7, h.v11, h.v12, h.v13, h.v14⟩
theorem iv_newL {np nl ng B x : Nat} {σ ρ : mSt} (h : Iv np nl ng B x σ ρ) {p : Nat} {v6 v7 v8 : Int32} (hn : nl < 20) (hp9 : p < np) (h6 : 0 ≤ v6.toInt ∧ v6.toInt ≤ 1000000) (h7 : 0 ≤ v7.toInt ∧ v7.toInt ≤ 100) : Iv np (nl + 1) ng B x (mUp (mUp (mUp (mUp (mUp (mUp σ 5 nl (nI p)) 6 nl v6) 7 nl v7) 8 nl v8) 9 nl 0) 22 0 (nI nl + 1)) (mUp (mUp (mUp (mUp (mUp (mUp ρ 15 nl (nI p)) 16 nl v6) 17 nl v7) 18 nl v8) 19 nl 0) 23 0 (nI nl + 1)) := by
  exact ⟨h.hp, hn, h.hg, h.c21, uS.trans (nI_1 nl), h.c23, h.d21, uS.trans (nI_1 nl), h.d22, h.tm, h.rs, h.bk, h.ou, h.ca, h.e0, h.e1, h.e2, h.e3, h.e4, fun q hq => mUp_eq (σ := σ) (ρ := ρ) (f := 5) (g := 15) (p := nl) (x := (nI p)) (z := (nI p)) rfl (fun e => h.e15 q (by omega)), fun q hq => mUp_eq (σ := σ) (ρ := ρ) (f := 6) (g := 16) (p := nl) (x := v6) (z := v6) rfl (fun e => h.e16 q (by omega)), fun q hq => mUp_eq (σ := σ) (ρ := ρ) (f := 7) (g := 17) (p := nl) (x := v7) (z := v7) rfl (fun e => h.e17 q (by omega)), fun q hq => mUp_eq (σ := σ) (ρ := ρ) (f := 8) (g := 18) (p := nl) (x := v8) (z := v8) rfl (fun e => h.e18 q (by omega)), fun q hq => mUp_eq (σ := σ) (ρ := ρ) (f := 9) (g := 19) (p := nl) (x := 0) (z := 0) rfl (fun e => h.e19 q (by omega)), h.e8, h.e9, h.e10, h.e11, h.e12, h.e13, h.e14, h.e5, h.e6, h.e7, h.nu, h.pl, h.ne, fun q hq => mUp_all (σ := σ) (f := 5) (p := nl) (x := nI p) (fun z => ∃ p, p < np ∧ z = nI p) (fun _ => ⟨p, hp9, rfl⟩) (fun e => h.bo q (by omega)), fun q hq => mUp_all (σ := σ) (f := 9) (p := nl) (x := 0) (fun z => z = 0 ∨ z = 1 ∨ z = 2) (fun _ => Or.inl rfl) (fun e => h.lk q (by omega)), fun q h1 h2 => (show mUp σ 9 nl 0 9 q = -1 from (uO (by omega)).trans (h.lu q (by omega) h2)), h.gk, h.gu, h.tu, h.b1, h.b2, h.b3, fun q hq => mUp_all (σ := σ) (f := 6) (p := nl) (x := v6) (fun z => 0 ≤ z.toInt ∧ z.toInt ≤ 1000000) (fun _ => h6) (fun e => h.b6 q (by omega)), fun q hq => mUp_all (σ := σ) (f := 7) (p := nl) (x := v7) (fun z => 0 ≤ z.toInt ∧ z.toInt ≤ 100) (fun _ => h7) (fun e => h.b7 q (by omega)), h.b11, h.b12, h.b16, h.b19, h.b20, h.u1, h.u2, h.u3, h.u4, h.v7, h.v11, h.v12, h.v13, h.v14⟩
/-- a game's rows as they are begun -/
def ng18 (σ : mSt) (ng : Nat) (pw pb s inc del stk : Int32) : mSt := mUp (mUp (mUp (mUp (mUp (mUp (mUp (mUp (mUp (mUp (mUp (mUp (mUp (mUp σ 18 (2 * ng) pw) 19 (2 * ng) s) 20 (2 * ng) 0) 18 (2 * ng + 1) pb) 19 (2 * ng + 1) s) 20 (2 * ng + 1) 0) 10 ng (nI ng)) 11 ng inc) 12 ng del) 13 ng stk) 14 ng 0) 15 ng 0) 16 ng 0) 17 ng 0
def ng5 (ρ : mSt) (ng : Nat) (pw pb s inc del stk : Int32) : mSt := mUp (mUp (mUp (mUp (mUp (mUp (mUp ρ 5 (2 * ng) pw) 5 (2 * ng + 1) pb) 6 (2 * ng) s) 6 (2 * ng + 1) s) 8 ng inc) 9 ng del) 10 ng stk
theorem two_all {σ : mSt} {f i n : Nat} {a b : Int32} (P : Nat → Int32 → Prop) (hi : i < 2 * (n + 1)) (ha : P (2 * n) a) (hb : P (2 * n + 1) b) (h : i < 2 * n → P i (σ f i)) : P i (mUp (mUp σ f (2 * n) a) f (2 * n + 1) b f i) := by
  by_cases e1 : i = 2 * n + 1
  · subst e1; rw [uS]; exact hb
  · rw [uO e1]
    by_cases e2 : i = 2 * n
    · subst e2; rw [uS]; exact ha
    · rw [uO e2]; exact h (by omega)
theorem two_eq {σ ρ : mSt} {f r i n : Nat} {a b : Int32} (hi : i < 2 * (n + 1)) (h : i < 2 * n → ρ r i = σ f i) : mUp (mUp ρ r (2 * n) a) r (2 * n + 1) b r i = mUp (mUp σ f (2 * n) a) f (2 * n + 1) b f i := by
  by_cases e1 : i = 2 * n + 1
  · subst e1; rw [uS, uS]
  · rw [uO e1, uO e1]
    by_cases e2 : i = 2 * n
    · subst e2; rw [uS, uS]
    · rw [uO e2, uO e2]; exact h (by omega)
theorem iv_newG {np nl ng B x : Nat} {σ ρ : mSt} (h : Iv np nl ng B x σ ρ) {p p9 : Nat} {s inc del stk : Int32} (hn : ng < 16) (hp9 : p < np) (hp8 : p9 < np) (hne : p ≠ p9) (h11 : 0 ≤ inc.toInt ∧ inc.toInt ≤ 30) (h12 : 0 ≤ del.toInt ∧ del.toInt ≤ 30) (hs : 1 ≤ s.toInt ∧ s.toInt ≤ 7200) : Iv np nl (ng + 1) B x (mUp (ng18 σ ng (nI p) (nI p9) s inc del stk) 23 0 (nI ng + 1)) (mUp (ng5 ρ ng (nI p) (nI p9) s inc del stk) 22 0 (nI ng + 1)) := by
  exact ⟨h.hp, h.hl, hn, h.c21, h.c22, uS.trans (nI_1 ng), h.d21, h.d23, uS.trans (nI_1 ng), h.tm, h.rs, h.bk, h.ou, h.ca, h.e0, h.e1, h.e2, h.e3, h.e4, h.e15, h.e16, h.e17, h.e18, h.e19, fun q hq => mUp_eq (σ := σ) (ρ := ρ) (f := 11) (g := 8) (p := ng) (x := inc) (z := inc) rfl (fun e => h.e8 q (by omega)), fun q hq => mUp_eq (σ := σ) (ρ := ρ) (f := 12) (g := 9) (p := ng) (x := del) (z := del) rfl (fun e => h.e9 q (by omega)), fun q hq => mUp_eq (σ := σ) (ρ := ρ) (f := 13) (g := 10) (p := ng) (x := stk) (z := stk) rfl (fun e => h.e10 q (by omega)), fun q hq => by
    by_cases e : q = ng
    · subst e
      exact (h.v11 q (Nat.le_refl _) hn).trans (uS (σ := σ) (f := 14) (x := 0)).symm
    · exact (h.e11 q (by omega)).trans (uO (σ := σ) (f := 14) (x := 0) e).symm, fun q hq => by
    by_cases e : q = ng
    · subst e
      exact (h.v12 q (Nat.le_refl _) hn).trans (uS (σ := σ) (f := 15) (x := 0)).symm
    · exact (h.e12 q (by omega)).trans (uO (σ := σ) (f := 15) (x := 0) e).symm, fun q hq => by
    by_cases e : q = ng
    · subst e
      exact (h.v13 q (Nat.le_refl _) hn).trans (uS (σ := σ) (f := 16) (x := 0)).symm
    · exact (h.e13 q (by omega)).trans (uO (σ := σ) (f := 16) (x := 0) e).symm, fun q hq => by
    by_cases e : q = ng
    · subst e
      exact (h.v14 q (Nat.le_refl _) hn).trans (uS (σ := σ) (f := 17) (x := 0)).symm
    · exact (h.e14 q (by omega)).trans (uO (σ := σ) (f := 17) (x := 0) e).symm, fun i hi => two_eq (σ := σ) (ρ := ρ) (f := 18) (r := 5) hi (fun e => h.e5 i e), fun i hi => two_eq (σ := σ) (ρ := ρ) (f := 19) (r := 6) hi (fun e => h.e6 i e), fun i hi => by
    show ρ 7 i = mUp (mUp σ 20 (2 * ng) 0) 20 (2 * ng + 1) 0 20 i
    exact two_all (fun i z => ρ 7 i = z) hi (h.v7 _ (by omega) (by omega)) (h.v7 _ (by omega) (by omega)) (fun e => h.e7 i e), fun q hq => by
    show mUp σ 10 ng (nI ng) 10 q = nI q
    by_cases e : q = ng
    · subst e; exact uS
    · rw [uO e]; exact h.nu q (by omega), fun i hi => two_all (σ := σ) (f := 18) (fun _ z => ∃ p, p < np ∧ z = nI p) hi ⟨p, hp9, rfl⟩ ⟨p9, hp8, rfl⟩ (fun e => h.pl i e), fun q hq => by
    show mUp (mUp σ 18 (2 * ng) (nI p)) 18 (2 * ng + 1) (nI p9) 18 (2 * q) ≠ mUp (mUp σ 18 (2 * ng) (nI p)) 18 (2 * ng + 1) (nI p9) 18 (2 * q + 1)
    by_cases e : q = ng
    · subst e
      rw [uS, uO (by omega), uS]
      have := h.hp
      exact fun e => hne ((nI_eq (by omega) (by omega)).mp e)
    · rw [uO (by omega), uO (by omega), uO (by omega), uO (by omega)]
      exact h.ne q (by omega), h.bo, h.lk, h.lu, fun q hq => mUp_all (σ := σ) (f := 17) (p := ng) (x := 0) (fun z => z = 0 ∨ z = 1 ∨ z = 2 ∨ z = 3) (fun _ => Or.inl rfl) (fun e => h.gk q (by omega)), fun q h1 h2 => (show mUp σ 17 ng 0 17 q = -1 from (uO (by omega)).trans (h.gu q (by omega) h2)), fun q hq => mUp_all (σ := σ) (f := 14) (p := ng) (x := 0) (fun z => z = 0 ∨ z = 1) (fun _ => Or.inl rfl) (fun e => h.tu q (by omega)), h.b1, h.b2, h.b3, h.b6, h.b7, fun q hq => mUp_all (σ := σ) (f := 11) (p := ng) (x := inc) (fun z => 0 ≤ z.toInt ∧ z.toInt ≤ 30) (fun _ => h11) (fun e => h.b11 q (by omega)), fun q hq => mUp_all (σ := σ) (f := 12) (p := ng) (x := del) (fun z => 0 ≤ z.toInt ∧ z.toInt ≤ 30) (fun _ => h12) (fun e => h.b12 q (by omega)), fun q hq => mUp_all (σ := σ) (f := 16) (p := ng) (x := 0) (fun z => 0 ≤ z.toInt ∧ z.toInt ≤ B) (fun _ => ⟨Int.le_refl _, Int.natCast_nonneg _⟩) (fun e => h.b16 q (by omega)), fun q hq h1 h2 => by
    show 1 ≤ (mUp (mUp σ 19 (2 * ng) s) 19 (2 * ng + 1) s 19 (2 * q)).toInt ∧ 1 ≤ (mUp (mUp σ 19 (2 * ng) s) 19 (2 * ng + 1) s 19 (2 * q + 1)).toInt ∧ (mUp (mUp σ 19 (2 * ng) s) 19 (2 * ng + 1) s 19 (2 * q)).toInt + (mUp (mUp σ 19 (2 * ng) s) 19 (2 * ng + 1) s 19 (2 * q + 1)).toInt ≤ 14400 + B
    by_cases e : q = ng
    · subst e
      rw [uS, uO (by omega), uS]
      omega
    · rw [uO (by omega), uO (by omega), uO (by omega), uO (by omega)]
      exact h.b19 q (by omega) h1 ((uO (σ := σ) (f := 17) (x := 0) e).symm.trans h2), fun i hi => two_all (σ := σ) (f := 20) (fun _ z => 0 ≤ z.toInt ∧ z.toInt ≤ B) hi ⟨Int.le_refl _, Int.natCast_nonneg _⟩ ⟨Int.le_refl _, Int.natCast_nonneg _⟩ (fun e => h.b20 i e), h.u1, h.u2, h.u3, h.u4, fun i h1 h2 => h.v7 i (by omega) h2, fun q h1 h2 => h.v11 q (by omega) h2, fun q h1 h2 => h.v12 q (by omega) h2, fun q h1 h2 => h.v13 q (by omega) h2, fun q h1 h2 => h.v14 q (by omega) h2⟩
theorem iv_R {np nl ng B x : Nat} {σ ρ ρ9 : mSt} (h : Iv np nl ng B x σ ρ) (r0 : ρ9 0 = ρ 0 := by rfl) (r1 : ρ9 1 = ρ 1 := by rfl) (r2 : ρ9 2 = ρ 2 := by rfl) (r3 : ρ9 3 = ρ 3 := by rfl) (r4 : ρ9 4 = ρ 4 := by rfl) (r5 : ρ9 5 = ρ 5 := by rfl) (r6 : ρ9 6 = ρ 6 := by rfl) (r7 : ρ9 7 = ρ 7 := by rfl) (r8 : ρ9 8 = ρ 8 := by rfl) (r9 : ρ9 9 = ρ 9 := by rfl) (r10 : ρ9 10 = ρ 10 := by rfl) (r11 : ρ9 11 = ρ 11 := by rfl) (r12 : ρ9 12 = ρ 12 := by rfl) (r13 : ρ9 13 = ρ 13 := by rfl) (r14 : ρ9 14 = ρ 14 := by rfl) (r15 : ρ9 15 = ρ 15 := by rfl) (r16 : ρ9 16 = ρ 16 := by rfl) (r17 : ρ9 17 = ρ 17 := by rfl) (r18 : ρ9 18 = ρ 18 := by rfl) (r19 : ρ9 19 = ρ 19 := by rfl) (r20 : ρ9 20 = ρ 20 := by rfl) (r21 : ρ9 21 = ρ 21 := by rfl) (r22 : ρ9 22 = ρ 22 := by rfl) (r23 : ρ9 23 = ρ 23 := by rfl) (r24 : ρ9 24 = ρ 24 := by rfl) (r25 : ρ9 25 = ρ 25 := by rfl) (r26 : ρ9 26 = ρ 26 := by rfl) : Iv np nl ng B x σ ρ9 := by
  unfold Iv at h ⊢
  rw [r0, r1, r2, r3, r4, r5, r6, r7, r8, r9, r10, r11, r12, r13, r14, r15, r16, r17, r18, r19, r20, r21, r22, r23, r24, r25, r26]
  exact h
theorem iv_S {np nl ng B x : Nat} {σ σ9 ρ : mSt} (h : Iv np nl ng B x σ ρ) (s0 : σ9 0 = σ 0 := by rfl) (s1 : σ9 1 = σ 1 := by rfl) (s2 : σ9 2 = σ 2 := by rfl) (s3 : σ9 3 = σ 3 := by rfl) (s4 : σ9 4 = σ 4 := by rfl) (s5 : σ9 5 = σ 5 := by rfl) (s6 : σ9 6 = σ 6 := by rfl) (s7 : σ9 7 = σ 7 := by rfl) (s8 : σ9 8 = σ 8 := by rfl) (s9 : σ9 9 = σ 9 := by rfl) (s10 : σ9 10 = σ 10 := by rfl) (s11 : σ9 11 = σ 11 := by rfl) (s12 : σ9 12 = σ 12 := by rfl) (s13 : σ9 13 = σ 13 := by rfl) (s14 : σ9 14 = σ 14 := by rfl) (s15 : σ9 15 = σ 15 := by rfl) (s16 : σ9 16 = σ 16 := by rfl) (s17 : σ9 17 = σ 17 := by rfl) (s18 : σ9 18 = σ 18 := by rfl) (s19 : σ9 19 = σ 19 := by rfl) (s20 : σ9 20 = σ 20 := by rfl) (s21 : σ9 21 = σ 21 := by rfl) (s22 : σ9 22 = σ 22 := by rfl) (s23 : σ9 23 = σ 23 := by rfl) (s24 : σ9 24 = σ 24 := by rfl) (s25 : σ9 25 = σ 25 := by rfl) (s26 : σ9 26 = σ 26 := by rfl) (s27 : σ9 27 = σ 27 := by rfl) : Iv np nl ng B x σ9 ρ := by
  unfold Iv at h ⊢
  rw [s0, s1, s2, s3, s4, s5, s6, s7, s8, s9, s10, s11, s12, s13, s14, s15, s16, s17, s18, s19, s20, s21, s22, s23, s24, s25, s26, s27]
  exact h
theorem iv_init : Iv 0 0 0 0 16 iσ iρ := by
  refine ⟨by omega, by omega, by omega, rfl, rfl, rfl, rfl, rfl, rfl, rfl, rfl, rfl, rfl, rfl, fun q hq => absurd hq (by omega), fun q hq => absurd hq (by omega), fun q hq => absurd hq (by omega), fun q hq => absurd hq (by omega), fun q hq => absurd hq (by omega), fun q hq => absurd hq (by omega), fun q hq => absurd hq (by omega), fun q hq => absurd hq (by omega), fun q hq => absurd hq (by omega), fun q hq => absurd hq (by omega), fun q hq => absurd hq (by omega), fun q hq => absurd hq (by omega), fun q hq => absurd hq (by omega), fun q hq => absurd hq (by omega), fun q hq => absurd hq (by omega), fun q hq => absurd hq (by omega), fun q hq => absurd hq (by omega), fun q hq => absurd hq (by omega), fun q hq => absurd hq (by omega), fun q hq => absurd hq (by omega), fun q hq => absurd hq (by omega), fun q hq => absurd hq (by omega), fun q hq => absurd hq (by omega), fun q hq => absurd hq (by omega), fun q hq => absurd hq (by omega), fun k _ _ => rfl, fun q hq => absurd hq (by omega), fun k _ _ => rfl, fun q hq => absurd hq (by omega), fun q hq => absurd hq (by omega), fun q hq => absurd hq (by omega), fun q hq => absurd hq (by omega), fun q hq => absurd hq (by omega), fun q hq => absurd hq (by omega), fun q hq => absurd hq (by omega), fun q hq => absurd hq (by omega), fun q hq => absurd hq (by omega), fun q hq => absurd hq (by omega), fun q hq => absurd hq (by omega), fun p _ _ => ⟨rfl, rfl⟩, fun p _ _ => ⟨rfl, rfl⟩, fun p _ _ => ⟨rfl, rfl⟩, fun p _ _ => ⟨rfl, rfl⟩, fun _ _ _ => rfl, fun _ _ _ => rfl, fun _ _ _ => rfl, fun _ _ _ => rfl, fun _ _ _ => rfl⟩
