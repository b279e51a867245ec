/-! ===== mean ===== -/
def itr {S : Type} (st : Nat → S → S) : Nat → S → S
  | 0, s => s
  | k + 1, s => st k (itr st k s)
theorem itr_k {S O : Type} {F : Nat → S → Int32 → O} {M : Nat} {st : Nat → S → S} (hF : ∀ n k s, k < M → F (n + 1) s (nI k) = F n (st k s) (nI (k + 1))) (s : S) : ∀ k n, k ≤ M → F (n + k) s 0 = F n (itr st k s) (nI k) := by
  intro k
  induction k with
  | zero => intro n _; rfl
  | succ k ih =>
    intro n hk
    rw [show n + (k + 1) = (n + 1) + k by omega, ih (n + 1) (by omega), hF n k _ (by omega)]
    rfl
theorem itr_e {S O : Type} {F : Nat → S → Int32 → O} {E : S → O} {M : Nat} {st : Nat → S → S} (hF : ∀ n k s, k < M → F (n + 1) s (nI k) = F n (st k s) (nI (k + 1))) (hE : ∀ n s, F (n + 1) s (nI M) = E s) {N : Nat} (hN : M < N) (s : S) : F N s 0 = E (itr st M s) := by
  obtain ⟨n, rfl⟩ : ∃ n, N = n + 1 + M := ⟨N - M - 1, by omega⟩
  rw [itr_k hF s M (n + 1) (Nat.le_refl _), hE]
/-- the running games among the first k -/
def cN (σ : mSt) : Nat → Nat
  | 0 => 0
  | k + 1 => cN σ k + (if σ 17 k = 0 then 1 else 0)
theorem cN_le {σ : mSt} : ∀ k, cN σ k ≤ k := by
  intro k
  induction k with
  | zero => exact Nat.le_refl _
  | succ k ih =>
    show cN σ k + (if σ 17 k = 0 then 1 else 0) ≤ k + 1
    by_cases c : σ 17 k = 0
    · rw [if_pos c]; omega
    · rw [if_neg c]; omega
theorem cN_run {σ : mSt} : ∀ k, sI k (qRun σ) = nI (cN σ k) := by
  intro k
  induction k with
  | zero => rfl
  | succ k ih =>
    show sI k (qRun σ) + qRun σ k = nI (cN σ k + (if σ 17 k = 0 then 1 else 0))
    rw [ih]
    unfold qRun
    by_cases c : σ 17 k = 0
    · rw [if_pos c, if_pos c, nI_1]
    · rw [if_neg c, if_neg c, Int32.add_zero]
      rfl
def qC (σ : mSt) (g : Nat) : Int32 := if σ 17 g = 0 then σ 19 (2 * g) + σ 19 (2 * g + 1) else 0
def qS (σ : mSt) (i : Nat) : Int64 := if σ 17 (i / 2) = 0 then (σ 19 i).toInt64 else 0
def mSt1 (σ : mSt) (k : Nat) (s : Int32 × Int32) : Int32 × Int32 := if σ 17 k = 0 then (s.1 + 2, s.2 + (σ 19 (2 * k) + σ 19 (2 * k + 1))) else s
theorem mSt1_k {σ : mSt} : ∀ k, itr (mSt1 σ) k (0, 0) = (nI (2 * cN σ k), sI k (qC σ)) := by
  intro k
  induction k with
  | zero => rfl
  | succ k ih =>
    show mSt1 σ k (itr (mSt1 σ) k (0, 0)) = (nI (2 * (cN σ k + (if σ 17 k = 0 then 1 else 0))), sI k (qC σ) + qC σ k)
    rw [ih]
    unfold mSt1 qC
    by_cases c : σ 17 k = 0
    · rw [if_pos c, if_pos c, if_pos c]
      show (nI (2 * cN σ k) + 2, _) = _
      rw [show (2 : Int32) = nI 2 from rfl, nI_add]
      rfl
    · rw [if_neg c, if_neg c, if_neg c, Int32.add_zero]
      rfl
def sL (n : Nat) (h : Nat → Int64) : Int64 := match n with
  | 0 => 0
  | n + 1 => sL n h + h n
theorem addL {a b : Int64} (h : -9223372036854775808 ≤ a.toInt + b.toInt ∧ a.toInt + b.toInt < 9223372036854775808) : (a + b).toInt = a.toInt + b.toInt := by
  rw [Int64.toInt_add, Int.bmod_def]
  omega
theorem mean_sum {np nl ng B : Nat} {σ ρ : mSt} (h : Iv np nl ng B 16 σ ρ) (hB : B ≤ 21500000) : ∀ n, n ≤ ng → (sL (2 * n) (qS σ)).toInt = (sI n (qC σ)).toInt ∧ 0 ≤ (sI n (qC σ)).toInt ∧ (sI n (qC σ)).toInt ≤ n * 22000000 := by
  have hg8 := h.hg
  intro n
  induction n with
  | zero => intro _; exact ⟨rfl, Int.le_refl _, Int.le_refl _⟩
  | succ n ih =>
    intro hn
    obtain ⟨i1, i2, i3⟩ := ih (by omega)
    show (sL (2 * n) (qS σ) + qS σ (2 * n) + qS σ (2 * n + 1)).toInt = (sI n (qC σ) + qC σ n).toInt ∧ 0 ≤ (sI n (qC σ) + qC σ n).toInt ∧ (sI n (qC σ) + qC σ n).toInt ≤ ((n + 1 : Nat) : Int) * 22000000
    have z1 : qS σ (2 * n) = if σ 17 n = 0 then (σ 19 (2 * n)).toInt64 else 0 := by unfold qS; rw [show 2 * n / 2 = n by omega]
    have z2 : qS σ (2 * n + 1) = if σ 17 n = 0 then (σ 19 (2 * n + 1)).toInt64 else 0 := by unfold qS; rw [show (2 * n + 1) / 2 = n by omega]
    rw [z1, z2]
    unfold qC
    by_cases c : σ 17 n = 0
    · obtain ⟨b1, b2, b3⟩ := h.b19 n (by omega) (by omega) c
      rw [if_pos c, if_pos c, if_pos c]
      have e1 := addI (a := σ 19 (2 * n)) (b := σ 19 (2 * n + 1)) (by omega)
      have e2 := addI (a := sI n (qC σ)) (b := σ 19 (2 * n) + σ 19 (2 * n + 1)) (by omega)
      have e3 := addL (a := sL (2 * n) (qS σ)) (b := (σ 19 (2 * n)).toInt64) (by rw [Int32.toInt_toInt64]; omega)
      have e4 := addL (a := sL (2 * n) (qS σ) + (σ 19 (2 * n)).toInt64) (b := (σ 19 (2 * n + 1)).toInt64) (by rw [e3, Int32.toInt_toInt64, Int32.toInt_toInt64]; omega)
      rw [Int32.toInt_toInt64] at e3 e4
      unfold qC at e2 i1 i2 i3
      refine ⟨?_, ?_, ?_⟩
      · rw [e4, e3, e2]; omega
      · rw [e2]; omega
      · rw [e2]; omega
    · rw [if_neg c, if_neg c, if_neg c, Int32.add_zero, Int64.add_zero, Int64.add_zero]
      unfold qC at i1 i2 i3
      exact ⟨i1, i2, by omega⟩
/-- a datum that rounding gives -/
def dOk (d : FP.Core.Datum) : Prop := (∃ s, d = .inf s) ∨ ∃ s c q, d = .fin s c q ∧ c < 9007199254740992 ∧ q ≤ FP.Core.b64.qmax
theorem dOk_bound {s : Bool} {c : Nat} {q : Int} (hc : c < 9007199254740992) : dOk (FP.Core.bound FP.Core.b64 s c q) := by
  unfold FP.Core.bound
  by_cases h : q ≤ FP.Core.b64.qmax
  · rw [if_pos h]; exact Or.inr ⟨s, c, q, rfl, hc, h⟩
  · rw [if_neg h]; exact Or.inl ⟨s, rfl⟩
theorem dOk_rr {s : Bool} {A B : Nat} {e : Int} : dOk (FP.Core.roundRatio FP.Core.b64 s A B e) := by
  unfold FP.Core.roundRatio
  by_cases h : A = 0
  · rw [if_pos h]; exact Or.inr ⟨s, 0, _, rfl, by decide, by decide⟩
  · rw [if_neg h]
    unfold FP.Core.roundAt FP.Core.settle
    generalize FP.Core.nearest (FP.Core.unitsNum A e (FP.Core.quantum FP.Core.b64 A B e)) (FP.Core.unitsDen B e (FP.Core.quantum FP.Core.b64 A B e)) = c
    by_cases h2 : c < 2 ^ FP.Core.b64.p
    · rw [if_pos h2]; exact dOk_bound h2
    · rw [if_neg h2]; exact dOk_bound (by decide)
theorem asm_b (s : Bool) {e t : Nat} (he : e ≤ 2047) (ht : t < 4503599627370496) (h : e = 2047 → t = 0) : FP.Core.assemble FP.Core.b64 s e t < 18446744073709551616 ∧ FP.Core.assemble FP.Core.b64 s e t % 9223372036854775808 ≤ 9218868437227405312 := by
  have ex : FP.Core.b64.exps = 2048 := by decide
  have tx : FP.Core.b64.tails = 4503599627370496 := by decide
  unfold FP.Core.assemble
  rw [ex, tx]
  have hs : s.toNat = 0 ∨ s.toNat = 1 := by cases s <;> simp
  by_cases h1 : e = 2047
  · have := h h1
    subst h1
    rcases hs with k | k <;> rw [k] <;> omega
  · rcases hs with k | k <;> rw [k] <;> omega
theorem enc_b {d : FP.Core.Datum} (h : dOk d) : FP.Core.encode FP.Core.b64 d < 18446744073709551616 ∧ FP.Core.encode FP.Core.b64 d % 9223372036854775808 ≤ 9218868437227405312 := by
  have ex : FP.Core.b64.exps = 2048 := by decide
  have tx : FP.Core.b64.tails = 4503599627370496 := by decide
  have qn : FP.Core.b64.qmin = -1074 := by decide
  have qx : FP.Core.b64.qmax = 971 := by decide
  rcases h with ⟨s, rfl⟩ | ⟨s, c, q, rfl, hc, hq⟩
  · show FP.Core.assemble FP.Core.b64 s (FP.Core.b64.exps - 1) 0 < _ ∧ FP.Core.assemble FP.Core.b64 s (FP.Core.b64.exps - 1) 0 % _ ≤ _
    exact asm_b s (by rw [ex]; omega) (by omega) (fun _ => rfl)
  · unfold FP.Core.encode
    show (if c < FP.Core.b64.tails then FP.Core.assemble FP.Core.b64 s 0 c else FP.Core.assemble FP.Core.b64 s ((q - FP.Core.b64.qmin).toNat + 1) (c - FP.Core.b64.tails)) < _ ∧ _
    by_cases h1 : c < FP.Core.b64.tails
    · simp only [if_pos h1]
      rw [tx] at h1
      exact asm_b s (by omega) h1 (fun e => absurd e (by omega))
    · simp only [if_neg h1]
      rw [tx] at h1 ⊢
      rw [qx] at hq
      rw [qn]
      exact asm_b s (by omega) (by omega) (fun e => absurd e (by omega))
theorem dec_b {n : Nat} (h : n % 9223372036854775808 ≤ 9218868437227405312) : FP.Core.decode FP.Core.b64 n ≠ .nan := by
  have ex : FP.Core.b64.exps = 2048 := by decide
  have tx : FP.Core.b64.tails = 4503599627370496 := by decide
  unfold FP.Core.decode FP.Core.fieldE FP.Core.fieldT
  rw [ex, tx]
  by_cases h1 : n / 4503599627370496 % 2048 = 2048 - 1
  · rw [if_pos h1]
    by_cases h2 : n % 4503599627370496 = 0
    · rw [if_pos h2]; exact fun e => FP.Core.Datum.noConfusion e
    · exact absurd h (by omega)
  · rw [if_neg h1]
    by_cases h2 : n / 4503599627370496 % 2048 = 0
    · rw [if_pos h2]; exact fun e => FP.Core.Datum.noConfusion e
    · rw [if_neg h2]; exact fun e => FP.Core.Datum.noConfusion e
theorem ofN_b {n : Nat} (h : n < 18446744073709551616) : (UInt64.ofNat n).toNat = n := UInt64.toNat_ofNat_of_lt' (by simpa using h)
theorem i2d_b (x : Int32) : (FP.i2d x).toNat % 9223372036854775808 ≤ 9218868437227405312 := by
  show (UInt64.ofNat (FP.Core.encode FP.Core.b64 (FP.Core.round FP.Core.b64 (FP.Core.ofInt x.toInt)))).toNat % _ ≤ _
  have k := enc_b (d := FP.Core.round FP.Core.b64 (FP.Core.ofInt x.toInt)) dOk_rr
  rw [ofN_b k.1]
  exact k.2
theorem den_b : ∀ m, m < 17 → m ≠ 0 → (match FP.Core.decode FP.Core.b64 (FP.i2d (nI (2 * m))).toNat with | .fin _ d _ => decide (d ≠ 0) | _ => false) = true := by decide +kernel
theorem quo_b {x : FP.Core.Datum} {s : Bool} {d : Nat} {r : Int} (hx : x ≠ .nan) (hd : d ≠ 0) : dOk (FP.Core.quotient FP.Core.b64 x (.fin s d r)) := by
  cases x with
  | nan => exact absurd rfl hx
  | inf t => exact Or.inl ⟨_, rfl⟩
  | fin t c q =>
    unfold FP.Core.quotient
    show dOk (if d = 0 then _ else _)
    rw [if_neg hd]
    exact dOk_rr
theorem div_b (x : Int32) {m : Nat} (h1 : m < 17) (h2 : m ≠ 0) : (FP.ddiv (FP.i2d x) (FP.i2d (nI (2 * m)))).toNat % 9223372036854775808 ≤ 9218868437227405312 := by
  have hd := den_b m h1 h2
  have hx := dec_b (i2d_b x)
  show (UInt64.ofNat (FP.Core.encode FP.Core.b64 (FP.Core.quotient FP.Core.b64 (FP.Core.decode FP.Core.b64 (FP.i2d x).toNat) (FP.Core.decode FP.Core.b64 (FP.i2d (nI (2 * m))).toNat)))).toNat % _ ≤ _
  generalize FP.Core.decode FP.Core.b64 (FP.i2d (nI (2 * m))).toNat = y at hd ⊢
  cases y with
  | nan => exact absurd hd (by decide)
  | inf t => exact absurd hd (by simp)
  | fin t c q =>
    have k := enc_b (quo_b (s := t) (r := q) hx (show c ≠ 0 from of_decide_eq_true hd))
    rw [ofN_b k.1]
    exact k.2
theorem grd_b {a : UInt64} (h : a.toNat % 9223372036854775808 ≤ 9218868437227405312) : a &&& 0x7fffffffffffffff ≤ 0x7ff0000000000000 := by
  rw [UInt64.le_iff_toNat_le, UInt64.toNat_and]
  show a.toNat &&& 9223372036854775807 ≤ 9218868437227405312
  rw [show (9223372036854775807 : Nat) = 2 ^ 63 - 1 by decide, Nat.and_two_pow_sub_one_eq_mod]
  exact h
theorem cmp_b {a : UInt64} (h : a.toNat % 9223372036854775808 ≤ 9218868437227405312) : FP.dcmp a a = some .eq := by
  have hx := dec_b h
  show FP.Core.order (FP.Core.decode FP.Core.b64 a.toNat) (FP.Core.decode FP.Core.b64 a.toNat) = some .eq
  generalize FP.Core.decode FP.Core.b64 a.toNat = y at hx ⊢
  have cs : ∀ z : Int, compare z z = .eq := fun z => by simp
  cases y with
  | nan => exact absurd rfl hx
  | inf t => exact congrArg some (cs _)
  | fin t c q => exact congrArg some (cs _)
theorem x_mean {N : Nat} {σ τ : mSt} (hN : 100 ≤ N) : f_X5_mean N σ τ = (if cN σ 16 = 0 then some (FP.dconst0, σ, τ) else some (FP.ddiv (FP.i2d (sI 16 (qC σ))) (FP.i2d (nI (2 * cN σ 16))), σ, τ)) := by
  unfold f_X5_mean
  have hc := cN_le (σ := σ) 16
  refine (itr_e (S := Int32 × Int32) (F := fun n s i => f_X5_mean_19 N n σ τ s.1 s.2 i) (E := fun s => f_X5_mean_19 N 1 σ τ s.1 s.2 16) (st := mSt1 σ) (M := 16) (fun n k s hk => ?_) (fun n s => ?_) (by omega) (0, 0)).trans ?_
  · show f_X5_mean_19 N (n + 1) σ τ s.1 s.2 (nI k) = f_X5_mean_19 N n σ τ (mSt1 σ k s).1 (mSt1 σ k s).2 (nI (k + 1))
    rw [f_X5_mean_19]
    unfold f_X0_runs mSt1
    by_cases c : σ 17 k = 0
    · simp only [leF (n := 16) (c := 16) rfl hk (by decide), mI_t hk (show 16 < 1000 by omega), cl (show k < 1000 by omega), c, bS, ↓reduceIte, one0, eq_true hk, nI_1]
    · simp only [leF (n := 16) (c := 16) rfl hk (by decide), mI_t hk (show 16 < 1000 by omega), cl (show k < 1000 by omega), c, bS, ↓reduceIte, eq_true hk, nI_1]
  · show f_X5_mean_19 N (n + 1) σ τ s.1 s.2 16 = f_X5_mean_19 N (0 + 1) σ τ s.1 s.2 16
    rw [f_X5_mean_19, f_X5_mean_19]
    rfl
  · rw [mSt1_k]
    show f_X5_mean_19 N (0 + 1) σ τ (nI (2 * cN σ 16)) (sI 16 (qC σ)) 16 = _
    rw [f_X5_mean_19, if_pos (show (16 : Int32) ≤ 16 from Int32.le_refl _)]
    by_cases c : cN σ 16 = 0
    · rw [if_pos c, c]
      rfl
    · rw [if_neg c, if_neg (nI_ne0 (by omega) (by omega)), if_pos (grd_b (div_b _ (by omega) c))]
theorem accL_k {O : Type} {F : Nat → Int64 → Int32 → O} {M : Nat} {h : Nat → Int64} (hF : ∀ n k v, k < M → F (n + 1) v (nI k) = F n (v + h k) (nI (k + 1))) (v : Int64) : ∀ k n, k ≤ M → F (n + k) v 0 = F n (v + sL k h) (nI k) := by
  intro k
  induction k with
  | zero => intro n _; show F n v 0 = F n (v + 0) (nI 0); rw [Int64.add_zero]; rfl
  | succ k ih =>
    intro n hk
    rw [show n + (k + 1) = (n + 1) + k by omega, ih (n + 1) (by omega), hF n k _ (by omega), Int64.add_assoc]
    rfl
theorem qC_16 {np nl ng B : Nat} {σ ρ : mSt} (h : Iv np nl ng B 16 σ ρ) : sI 16 (qC σ) = sI ng (qC σ) := by
  refine sI_to h.hg (fun _ _ => rfl) (fun g h1 h2 => ?_)
  unfold qC
  rw [h.gu g h1 h2]
  rfl
theorem y_mean {N np nl ng B : Nat} {σ ρ α : mSt} {th : Int32} (h : Iv np nl ng B 16 σ ρ) (hB : B ≤ 21500000) (hN : 100 ≤ N) : f_X7_mean N th ρ α = (if cN σ 16 = 0 then some (FP.dconst0, 0, ρ, α) else some (FP.ddiv (FP.i2d (sI 16 (qC σ))) (FP.i2d (nI (2 * cN σ 16))), 0, ρ, α)) := by
  have hg8 := h.hg
  have hc := cN_le (σ := σ) 16
  unfold f_X7_mean
  obtain ⟨n9, hn9⟩ : ∃ n9, N = n9 + 1 + 2 * ng := ⟨N - 1 - 2 * ng, by omega⟩
  have e1 : f_X7_mean_9 N N 0 ρ α 0 0 = f_X7_mean_9 N (n9 + 1) 0 ρ α (sL (2 * ng) (qS σ)) (nI (2 * ng)) := by
    have := accL_k (F := fun n v i => f_X7_mean_9 N n 0 ρ α v i) (M := 2 * ng) (h := qS σ) (fun n k v hk => ?_) 0 (2 * ng) (n9 + 1) (Nat.le_refl _)
    · rw [Int64.zero_add, ← hn9] at this
      exact this
    · show f_X7_mean_9 N (n + 1) 0 ρ α v (nI k) = f_X7_mean_9 N n 0 ρ α (v + qS σ k) (nI (k + 1))
      rw [f_X7_mean_9, h.d22, two_nI]
      unfold qS f_X7_mean_50
      by_cases c : σ 17 (k / 2) = 0
      · simp only [dv2 k (by omega), r_runs h (show k / 2 < ng by omega), leF rfl hk (show 2 * ng < 1000 by omega), mI_t (show k < 32 by omega) (show 32 < 1000 by omega), cl (show k < 1000 by omega), h.e6 k hk, c, bS, ↓reduceIte, one0, nI_1]
      · simp only [dv2 k (by omega), r_runs h (show k / 2 < ng by omega), leF rfl hk (show 2 * ng < 1000 by omega), c, bS, ↓reduceIte, nI_1]
  rw [e1, f_X7_mean_9, h.d22, two_nI, if_pos (Int32.le_refl _), y_running h hN, ← run_1 h, cN_run]
  have hw : (sL (2 * ng) (qS σ)).toInt = (sI 16 (qC σ)).toInt := by
    rw [qC_16 h]
    exact (mean_sum h hB ng (Nat.le_refl _)).1
  have hd : FP.l2d (sL (2 * ng) (qS σ)) = FP.i2d (sI 16 (qC σ)) := by
    show UInt64.ofNat (FP.Core.fromInt FP.Core.b64 _) = UInt64.ofNat (FP.Core.fromInt FP.Core.b64 _)
    rw [hw]
  simp only [bS]
  by_cases c : cN σ 16 = 0
  · rw [if_pos c, c, if_pos (show nI 0 = 0 from rfl)]
  · rw [if_neg c, if_neg (nI_ne0 (by omega) (by omega)), y_running h hN, ← run_1 h, cN_run, hd]
    simp only [bS, two_nI]
    rw [if_pos (grd_b (div_b _ (by omega) c))]
theorem g_mean {N np nl ng B : Nat} {w : lW} (h : Iv np nl ng B 16 w.σ w.ρ) (hB : B ≤ 21500000) (hN : 100 ≤ N) : s_mean N w = some (0, w.ρ, w.α, w.σ, w.τ, w.o) := by
  have hc := cN_le (σ := w.σ) 16
  unfold s_mean
  rw [x_mean hN, y_mean h hB hN]
  by_cases c : cN w.σ 16 = 0
  · rw [if_pos c, if_pos c]
    simp only [bS]
    rw [if_pos (cmp_b (a := FP.dconst0) (by decide))]
  · rw [if_neg c, if_neg c]
    simp only [bS]
    rw [if_pos (cmp_b (div_b _ (by omega) c))]
