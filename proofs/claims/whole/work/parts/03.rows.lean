/-! ===== rows over worlds ===== -/
/-- a world at a point of a method -/
def mV (D : va_G) (y : Nat → ClassId) (A : Nat → Prop) (s : State) (H0 H : Heap) (locs : List Loc) (n : Nat) (ad : Nat → Nat) (E : Nat → va_E) : Prop :=
  va_K D vwCl (mTy y) s ∧ va_P D vwCl (mWl n ad E) H ∧ va_D A (mWl n ad E) ∧ va_S A H0 H locs ∧ ∀ q, H0.size ≤ q → A q
theorem mV.to {D : va_G} {y : Nat → ClassId} {A : Nat → Prop} {s : State} {H0 H : Heap} {locs : List Loc} {n : Nat} {ad : Nat → Nat} {E E' : Nat → va_E} (h : mV D y A s H0 H locs n ad E) (hE : ∀ c, c < n → E c = E' c) : mV D y A s H0 H locs n ad E' := by
  obtain ⟨h1, h2, h3, h4⟩ := h
  rw [mWl_congr hE] at h2 h3
  exact ⟨h1, h2, h3, h4⟩
/-- the method's frame: its machine, its code, its words, what it returns -/
def mBd (p : Program) (s : State) (m : MethodId) (args : Array Value) (meth : Method) (c : Code) (cc : ByteArray) (nL : Nat) (ws : List Cond) (own : String) (ret : Option FieldType) : Prop :=
  p.tables.exec = Jvm.exec ∧ c.code = cc ∧ c.maxLocals = nL ∧ s.vm.findClass own = some m.cls ∧ (∀ w ∈ ws, w.before args s = true) ∧ meth.sig.returnType = ret ∧ meth.locks = false
/-- an index within an array of n cells -/
abbrev mIn (i : Int32) (n : Nat) : Prop := 0 ≤ i ∧ i.toNatClampNeg < n
theorem mIn_vp {i : Int32} {n : Nat} (h : mIn i n) : vp_in i n := by
  rintro (g | g)
  · have := h.1
    rw [Int32.le_iff_toInt_le, Int32.toInt_zero] at this
    rw [Int32.lt_iff_toInt_lt, Int32.toInt_zero] at g
    omega
  · have := h.2
    omega
/-- the words that every method of a world is begun with -/
def mPre (D : va_G) (y : Nat → ClassId) (n : Nat) (ad : Nat → Nat) (E : Nat → va_E) (sz : Nat) (X : (Nat → Prop) → State → Prop) (U : State) : Prop :=
  U.heap.size = sz ∧ va_P D vwCl (mWl n ad E) U.heap ∧ va_K D vwCl (mTy y) U ∧ va_D (fun _ => True) (mWl n ad E) ∧ X (mFree n ad sz) U
/-- what a method's premise beside the world may be: it stays in a call's frame, and on the way -/
def mXok (X : (Nat → Prop) → State → Prop) : Prop := ∀ (A : Nat → Prop) (U : State) (g : JFrame) (mk : MethodId) (a : Array Value), X A U → X A (U.calling g mk a)
def mX0 : (Nat → Prop) → State → Prop := fun _ _ => True
theorem mX0_ok : mXok mX0 := fun _ _ _ _ _ _ => trivial
theorem mPre_blind {D : va_G} {y : Nat → ClassId} {n : Nat} {ad : Nat → Nat} {E : Nat → va_E} {sz : Nat} {X : (Nat → Prop) → State → Prop} {av : List Value} (hX : mXok X) : FrameBlind (va_Pc av (mPre D y n ad E sz X)) :=
  fun a U g mk q => by
    obtain ⟨q0, q1, q2, q3, q4, q5⟩ := q
    exact ⟨q0, q1, q2, va_K.moved (u := U) (U := U.calling g mk a) (Vm.Alike.refl U.vm) q3, q4, hX _ _ _ _ _ q5⟩
/-- the end: returned r, the world E' -/
def mQ (r : Option Value) (D : va_G) (n : Nat) (ad : Nat → Nat) (E' : Nat → va_E) (sz : Nat) : Array Value → State → Outcome → State → Prop :=
  fun _ st oc t => oc = .returned r ∧ va_P D vwCl (mWl n ad E') t.heap ∧ va_F (mFree n ad sz) st t
/-- a contract: from the world E, with these arguments: r, and the world E' -/
def mC (l : Launch) (yn : MethodName) (ws : List Cond) (rm : Room) (D : va_G) (y : Nat → ClassId) (n : Nat) (ad : Nat → Nat) (X : (Nat → Prop) → State → Prop) (E : Nat → va_E) (av : List Value) (r : Option Value) (E' : Nat → va_E) (mc ms : Nat) : Prop :=
  ∀ sz, Met l yn ws rm (va_Pc av (mPre D y n ad E sz X)) (mQ r D n ad E' sz) mc ms (mFree n ad sz)
/-- .. that returns (inl) or throws (inr: the class by its name) -/
def mQo (o : Option Value ⊕ String) (D : va_G) (n : Nat) (ad : Nat → Nat) (E' : Nat → va_E) (sz : Nat) : Array Value → State → Outcome → State → Prop :=
  fun a st oc t => ∃ r, o = .inl r ∧ mQ r D n ad E' sz a st oc t
def mXo (o : Option Value ⊕ String) (D : va_G) (n : Nat) (ad : Nat → Nat) (E' : Nat → va_E) (sz : Nat) : String → State → State → Prop :=
  fun Ex st t => o = .inr Ex ∧ va_P D vwCl (mWl n ad E') t.heap ∧ va_F (mFree n ad sz) st t
def mCX (l : Launch) (yn : MethodName) (ws : List Cond) (rm : Room) (D : va_G) (y : Nat → ClassId) (n : Nat) (ad : Nat → Nat) (X : (Nat → Prop) → State → Prop) (E : Nat → va_E) (av : List Value) (o : Option Value ⊕ String) (E' : Nat → va_E) (mc ms : Nat) : Prop :=
  ∀ sz, vx_Met l yn ws rm (va_Pc av (mPre D y n ad E sz X)) (mQo o D n ad E' sz) (mXo o D n ad E' sz) mc ms (mFree n ad sz)
theorem mCX_plain {l : Launch} {yn : MethodName} {ws : List Cond} {rm : Room} {D : va_G} {y : Nat → ClassId} {n : Nat} {ad : Nat → Nat} {X : (Nat → Prop) → State → Prop} {E : Nat → va_E} {av : List Value} {r : Option Value} {E' : Nat → va_E} {mc ms : Nat} (h : mCX l yn ws rm D y n ad X E av (.inl r) E' mc ms) : mC l yn ws rm D y n ad X E av r E' mc ms := by
  intro sz p e ha hc hk s m args below hf happ hpre hcall
  obtain ⟨k, o, h1, h2, h3, hQ⟩ := h sz p e ha hc hk s m args below hf happ hpre hcall
  refine ⟨k, o, h1, h2, h3, ?_⟩
  rcases hQ with ⟨⟨r', g1, g2⟩, g3⟩ | ⟨q, g1, g2⟩
  · cases g1
    exact ⟨g2, g3⟩
  · obtain ⟨Ex, ce, L, ⟨g3, -⟩, -⟩ := g2
    cases g3
section MRows
variable {p : Program} {l : Launch} {e : Env} {R : Room} {s : State} {m : MethodId} {args : Array Value} {below : List Frame} {meth : Method} {c : Code} {H : Heap} {locs : List Loc} {cells slots : Nat} {Q : State → Prop}
variable {cc : ByteArray} {pc : Nat} {ls : Array Slot} {rest : List Value} {D : va_G} {y : Nat → ClassId} {A : Nat → Prop} {H0 : Heap} {n : Nat} {ad : Nat → Nat} {E : Nat → va_E}
/-- getfield, an int: the field k of the ints of an object -/
theorem m_geti (hx : p.tables.exec = Jvm.exec) (hb : c.code = cc) {own C : String} {T : u_T} {N ci index : Nat} {Ts : List Cond} (hts : ∀ w ∈ Ts, w.before args s = true) (hown : s.vm.findClass own = some m.cls) (V : mV D y A s H0 H locs n ad E) (hin : ∀ w ∈ u_ws C T N, w ∈ Ts)
    {a : Nat} {refs : List Value} {base nf i : Nat} {σ : mSt} (ha : a < n) (he : E a = mOb ci refs base nf σ i) (hcl : vwCl[ci]? = some (C, T, N)) (k : Nat) (hk : k < nf) (hN : refs.length + k < N) (hC : (T (refs.length + k)).1 = C) (hlink : (Cond.fieldLink own index C (T (refs.length + k)).2.1 (T (refs.length + k)).2.2.1).before args s = true) {f : Nat} (hf : base + k = f)
    (hdg : decode cc pc = .ok (.getfield index, 3)) (kk : W p l e R s m args below meth c H locs cells slots Q (F0 m (pc + 3) ls (.int (σ f i) :: rest))) : W p l e R s m args below meth c H locs cells slots Q (F0 m pc ls (.ref (ad a) :: rest)) := by
  obtain ⟨hK, hP, -⟩ := V
  subst hf
  exact va_get hx hb hts hin hown hK hP a ((mWl_get ha).trans (by rw [he]; rfl)) hcl (refs.length + k) hN hlink (fun x h => by rw [hC] at h; exact h) (mOb_get refs base nf σ i k hk) hdg kk
/-- getfield, a reference -/
theorem m_getr (hx : p.tables.exec = Jvm.exec) (hb : c.code = cc) {own C : String} {T : u_T} {N ci index : Nat} {Ts : List Cond} (hts : ∀ w ∈ Ts, w.before args s = true) (hown : s.vm.findClass own = some m.cls) (V : mV D y A s H0 H locs n ad E) (hin : ∀ w ∈ u_ws C T N, w ∈ Ts)
    {a : Nat} {fs : List Value} (ha : a < n) (he : E a = .inr (ci, fs)) (hcl : vwCl[ci]? = some (C, T, N)) (k : Nat) (hN : k < N) (hC : (T k).1 = C) (hlink : (Cond.fieldLink own index C (T k).2.1 (T k).2.2.1).before args s = true) {v : Value} (hv : fs[k]? = some v)
    (hdg : decode cc pc = .ok (.getfield index, 3)) (kk : W p l e R s m args below meth c H locs cells slots Q (F0 m (pc + 3) ls (v :: rest))) : W p l e R s m args below meth c H locs cells slots Q (F0 m pc ls (.ref (ad a) :: rest)) := by
  obtain ⟨hK, hP, -⟩ := V
  exact va_get hx hb hts hin hown hK hP a ((mWl_get ha).trans (by rw [he])) hcl k hN hlink (fun x h => by rw [hC] at h; exact h) hv hdg kk
/-- .. by the right of a nest mate -/
theorem m_getN (hx : p.tables.exec = Jvm.exec) (hb : c.code = cc) {own C host : String} {T : u_T} {N ci index : Nat} {Ts : List Cond} (hts : ∀ w ∈ Ts, w.before args s = true) (hown : s.vm.findClass own = some m.cls) (V : mV D y A s H0 H locs n ad E) (hin : ∀ w ∈ u_ws C T N, w ∈ Ts)
    {a : Nat} {fs : List Value} (ha : a < n) (he : E a = .inr (ci, fs)) (hcl : vwCl[ci]? = some (C, T, N)) (k : Nat) (hN : k < N) (hC : (T k).1 = C) (hlink : (Cond.fieldLinkNest own index C (T k).2.1 (T k).2.2.1 host).before args s = true) {v : Value} (hv : fs[k]? = some v)
    (hdg : decode cc pc = .ok (.getfield index, 3)) (kk : W p l e R s m args below meth c H locs cells slots Q (F0 m (pc + 3) ls (v :: rest))) : W p l e R s m args below meth c H locs cells slots Q (F0 m pc ls (.ref (ad a) :: rest)) := by
  obtain ⟨hK, hP, -⟩ := V
  exact va_getN hx hb hts hin hown hK hP a ((mWl_get ha).trans (by rw [he])) hcl k hN hlink (fun x h => by rw [hC] at h; exact h) hv hdg kk
/-- putfield, an int of an object; E' what the world is then -/
theorem m_puti (hx : p.tables.exec = Jvm.exec) (hb : c.code = cc) {own C : String} {T : u_T} {N ci index : Nat} {Ts : List Cond} (hts : ∀ w ∈ Ts, w.before args s = true) (hown : s.vm.findClass own = some m.cls) (V : mV D y A s H0 H locs n ad E) (hin : ∀ w ∈ u_ws C T N, w ∈ Ts) (ty0 : Nat → FieldType) (hty : ∀ k, k < N → parseFieldDescriptor (T k).2.2.1 = some (ty0 k)) (hnm : ∀ a, a < N → ∀ b, b < N → a ≠ b → (T a).2.1 ≠ (T b).2.1)
    {a : Nat} {refs : List Value} {base nf i : Nat} {σ : mSt} {x : Int32} (ha : a < n) (he : E a = mOb ci refs base nf σ i) (hcl : vwCl[ci]? = some (C, T, N)) (k : Nat) (hk : k < nf) (hN : refs.length + k < N) (hC : (T (refs.length + k)).1 = C) (hlink : (Cond.fieldLink own index C (T (refs.length + k)).2.1 (T (refs.length + k)).2.2.1).before args s = true) (hfin : (T (refs.length + k)).2.2.2 = false) (hd : parseFieldDescriptor (T (refs.length + k)).2.2.1 = some .int)
    {E' : Nat → va_E} (hE : ∀ c', c' < n → va_up E a (mOb ci refs base nf (mUp σ (base + k) i x) i) c' = E' c')
    (hdg : decode cc pc = .ok (.putfield index, 3)) (kk : ∀ (H1 : Heap) (locs1 : List Loc), mV D y A s H0 H1 locs1 n ad E' → W p l e R s m args below meth c H1 locs1 cells slots Q (F0 m (pc + 3) ls rest)) : W p l e R s m args below meth c H locs cells slots Q (F0 m pc ls (.int x :: .ref (ad a) :: rest)) := by
  obtain ⟨hK, hP, hD, hS, hA⟩ := V
  refine va_put (ty := .int) hx hb hts hin ty0 hty hnm hown hK hP hD hS a ((mWl_get ha).trans (by rw [he]; rfl)) hcl (refs.length + k) hN hlink (fun x h => by rw [hC] at h; exact h) hfin hd rfl rfl (by simp; omega) hdg (fun H1 locs1 hP1 hD1 hS1 => ?_)
  rw [mOb_set, mWl_set] at hP1 hD1
  rw [show (Sum.inr (ci, refs ++ (List.range nf).map (fun j => Value.int (mUp σ (base + k) i x (base + j) i))) : va_E) = mOb ci refs base nf (mUp σ (base + k) i x) i from rfl, mWl_congr hE] at hP1 hD1
  exact kk H1 locs1 ⟨hK, hP1, hD1, hS1, hA⟩
/-- putfield, an int of an object told by a list -/
theorem m_putl (hx : p.tables.exec = Jvm.exec) (hb : c.code = cc) {own C : String} {T : u_T} {N ci index : Nat} {Ts : List Cond} (hts : ∀ w ∈ Ts, w.before args s = true) (hown : s.vm.findClass own = some m.cls) (V : mV D y A s H0 H locs n ad E) (hin : ∀ w ∈ u_ws C T N, w ∈ Ts) (ty0 : Nat → FieldType) (hty : ∀ k, k < N → parseFieldDescriptor (T k).2.2.1 = some (ty0 k)) (hnm : ∀ a, a < N → ∀ b, b < N → a ≠ b → (T a).2.1 ≠ (T b).2.1)
    {a : Nat} {fs fs' : List Value} {x : Int32} (ha : a < n) (he : E a = .inr (ci, fs)) (hcl : vwCl[ci]? = some (C, T, N)) (k : Nat) (hN : k < N) (hl : k < fs.length) (hC : (T k).1 = C) (hlink : (Cond.fieldLink own index C (T k).2.1 (T k).2.2.1).before args s = true) (hfin : (T k).2.2.2 = false) (hd : parseFieldDescriptor (T k).2.2.1 = some .int) (hfs : fs.set k (.int x) = fs')
    {E' : Nat → va_E} (hE : ∀ c', c' < n → va_up E a (.inr (ci, fs')) c' = E' c')
    (hdg : decode cc pc = .ok (.putfield index, 3)) (kk : ∀ (H1 : Heap) (locs1 : List Loc), mV D y A s H0 H1 locs1 n ad E' → W p l e R s m args below meth c H1 locs1 cells slots Q (F0 m (pc + 3) ls rest)) : W p l e R s m args below meth c H locs cells slots Q (F0 m pc ls (.int x :: .ref (ad a) :: rest)) := by
  obtain ⟨hK, hP, hD, hS, hA⟩ := V
  subst hfs
  refine va_put (ty := .int) hx hb hts hin ty0 hty hnm hown hK hP hD hS a ((mWl_get ha).trans (by rw [he])) hcl k hN hlink (fun x h => by rw [hC] at h; exact h) hfin hd rfl rfl hl hdg (fun H1 locs1 hP1 hD1 hS1 => ?_)
  rw [mWl_set, mWl_congr hE] at hP1 hD1
  exact kk H1 locs1 ⟨hK, hP1, hD1, hS1, hA⟩
theorem m_putN (hx : p.tables.exec = Jvm.exec) (hb : c.code = cc) {own C host : String} {T : u_T} {N ci index : Nat} {Ts : List Cond} (hts : ∀ w ∈ Ts, w.before args s = true) (hown : s.vm.findClass own = some m.cls) (V : mV D y A s H0 H locs n ad E) (hin : ∀ w ∈ u_ws C T N, w ∈ Ts) (ty0 : Nat → FieldType) (hty : ∀ k, k < N → parseFieldDescriptor (T k).2.2.1 = some (ty0 k)) (hnm : ∀ a, a < N → ∀ b, b < N → a ≠ b → (T a).2.1 ≠ (T b).2.1)
    {a : Nat} {fs fs' : List Value} {x : Int32} (ha : a < n) (he : E a = .inr (ci, fs)) (hcl : vwCl[ci]? = some (C, T, N)) (k : Nat) (hN : k < N) (hl : k < fs.length) (hC : (T k).1 = C) (hlink : (Cond.fieldLinkNest own index C (T k).2.1 (T k).2.2.1 host).before args s = true) (hfin : (T k).2.2.2 = false) (hd : parseFieldDescriptor (T k).2.2.1 = some .int) (hfs : fs.set k (.int x) = fs')
    {E' : Nat → va_E} (hE : ∀ c', c' < n → va_up E a (.inr (ci, fs')) c' = E' c')
    (hdg : decode cc pc = .ok (.putfield index, 3)) (kk : ∀ (H1 : Heap) (locs1 : List Loc), mV D y A s H0 H1 locs1 n ad E' → W p l e R s m args below meth c H1 locs1 cells slots Q (F0 m (pc + 3) ls rest)) : W p l e R s m args below meth c H locs cells slots Q (F0 m pc ls (.int x :: .ref (ad a) :: rest)) := by
  obtain ⟨hK, hP, hD, hS, hA⟩ := V
  subst hfs
  refine va_putN (ty := .int) hx hb hts hin ty0 hty hnm hown hK hP hD hS a ((mWl_get ha).trans (by rw [he])) hcl k hN hlink (fun x h => by rw [hC] at h; exact h) hfin hd rfl rfl hl hdg (fun H1 locs1 hP1 hD1 hS1 => ?_)
  rw [mWl_set, mWl_congr hE] at hP1 hD1
  exact kk H1 locs1 ⟨hK, hP1, hD1, hS1, hA⟩
/-- an array of references, its cell read -/
theorem m_aald (hx : p.tables.exec = Jvm.exec) (hb : c.code = cc) (V : mV D y A s H0 H locs n ad E) {a : Nat} {cA : ClassId} {C : String} {z : Nat} {f : Nat → Option Nat} (t0 : Nat) (ha : a < n) (he : E a = .inl (cA, z, .inr (.inr (.inr (.inr f))))) (ht : (mTy y)[t0]? = some (cA, .object C)) {i : Int32} (hin : mIn i z) {q : Nat} (hq : f i.toNatClampNeg = some q)
    (hdg : decode cc pc = .ok (.aaload, 1)) (kk : W p l e R s m args below meth c H locs cells slots Q (F0 m (pc + 1) ls (.ref q :: rest))) : W p l e R s m args below meth c H locs cells slots Q (F0 m pc ls (.int i :: .ref (ad a) :: rest)) := by
  obtain ⟨hK, hP, -⟩ := V
  refine va_aldq hx hb hK hP a t0 ((mWl_get ha).trans (by rw [he])) ht (mIn_vp hin) hdg ?_
  rw [hq]
  exact kk
theorem m_alen (hx : p.tables.exec = Jvm.exec) (hb : c.code = cc) (V : mV D y A s H0 H locs n ad E) {a : Nat} {cA : ClassId} {xa : vp_A} {ty : FieldType} (t0 : Nat) (ha : a < n) (he : E a = .inl (cA, xa)) (ht : (mTy y)[t0]? = some (cA, ty)) {v : Int32} (hv : Int32.ofNat xa.1 = v)
    (hdg : decode cc pc = .ok (.arraylength, 1)) (kk : W p l e R s m args below meth c H locs cells slots Q (F0 m (pc + 1) ls (.int v :: rest))) : W p l e R s m args below meth c H locs cells slots Q (F0 m pc ls (.ref (ad a) :: rest)) := by
  obtain ⟨hK, hP, -⟩ := V
  exact va_alen hx hb hK hP a t0 ((mWl_get ha).trans (by rw [he])) ht hv hdg kk
theorem m_iald (hx : p.tables.exec = Jvm.exec) (hb : c.code = cc) (V : mV D y A s H0 H locs n ad E) {a z : Nat} {f : Nat → Int32} (ha : a < n) (he : E a = .inl (y 0, z, .inl f)) {i : Int32} (hin : mIn i z)
    (hdg : decode cc pc = .ok (.iaload, 1)) (kk : W p l e R s m args below meth c H locs cells slots Q (F0 m (pc + 1) ls (.int (f i.toNatClampNeg) :: rest))) : W p l e R s m args below meth c H locs cells slots Q (F0 m pc ls (.int i :: .ref (ad a) :: rest)) := by
  obtain ⟨hK, hP, -⟩ := V
  exact va_iald hx hb hK hP a 0 ((mWl_get ha).trans (by rw [he])) rfl (mIn_vp hin) hdg kk
theorem m_iast (hx : p.tables.exec = Jvm.exec) (hb : c.code = cc) (V : mV D y A s H0 H locs n ad E) {a z : Nat} {f : Nat → Int32} {x : Int32} (ha : a < n) (he : E a = .inl (y 0, z, .inl f)) {i : Int32} (hin : mIn i z)
    {E' : Nat → va_E} (hE : ∀ c', c' < n → va_up E a (.inl (y 0, z, .inl (upd f i.toNatClampNeg x))) c' = E' c')
    (hdg : decode cc pc = .ok (.iastore, 1)) (kk : ∀ (H1 : Heap) (locs1 : List Loc), mV D y A s H0 H1 locs1 n ad E' → W p l e R s m args below meth c H1 locs1 cells slots Q (F0 m (pc + 1) ls rest)) : W p l e R s m args below meth c H locs cells slots Q (F0 m pc ls (.int x :: .int i :: .ref (ad a) :: rest)) := by
  obtain ⟨hK, hP, hD, hS, hA⟩ := V
  refine va_iast hx hb hK hP hD hS a 0 ((mWl_get ha).trans (by rw [he])) rfl (mIn_vp hin) hdg (fun H1 locs1 hP1 hD1 hS1 => ?_)
  rw [mWl_set, mWl_congr hE] at hP1 hD1
  exact kk H1 locs1 ⟨hK, hP1, hD1, hS1, hA⟩
/-- a call: the callee's world is the part of this one from the cell o on -/
theorem m_ret {mc ms n' o : Nat} {ad' : Nat → Nat} {E1' E2 : Nat → va_E} {r : Option Value} {a9 : Array Value} {st0 : List Value} (V : mV D y A s H0 H locs n ad E)
    (hr : va_Run p l e R s m args below meth c H locs cells slots mc ms (F0 m pc ls st0) rest (mQ r D n' ad' E1' H.size a9) (mFree n' ad' H.size)) (hs : ∀ c, c < n' → o + c < n ∧ ad' c = ad (o + c)) (h2 : ∀ c, c < n → mGl E o n' E1' c = E2 c)
    {st1 : List Value} (hst : r.toList ++ rest = st1) (kk : ∀ (H1 : Heap) (locs1 : List Loc), mV D y A s H0 H1 locs1 n ad E2 → W p l e R s m args below meth c H1 locs1 (cells + mc) (slots + ms) Q (F0 m (pc + 3) ls st1)) : W p l e R s m args below meth c H locs cells slots Q (F0 m pc ls st0) := by
  obtain ⟨hK, hP, hD, hS, hA⟩ := V
  subst hst
  intro T hT X
  obtain ⟨v, st₀, t, T', L, h0, X', hL, e1, e2, ⟨hv, hP1, hz, hk⟩, st⟩ := hr T hT X
  cases hv
  rw [h0] at hz hk
  have hF := mFree_in hD hS hA hs
  have hk1 : ∀ q : Nat, q < H.size → ¬ mFree n' ad' H.size q → T'.heap[q]? = H[q]? := fun q h1 h3 => by rw [e1]; exact hk q h1 h3
  rw [← e1] at hP1 hz
  have hP2 := mP_glue hP hD hs hP1 hk1 h2
  obtain ⟨t2, a1, b1⟩ := kk T'.heap (locs ++ L) ⟨hK, hP2, mD_E _ hD, ⟨Nat.le_trans hS.1 hz, fun q h1 h3 => by rw [hk1 q (Nat.lt_of_lt_of_le h1 hS.1) (fun z => h3 (hF q z))]; exact hS.2.1 q h1 h3, fun q hq => by
      rcases List.mem_append.mp hq with h | h
      · exact hS.2.2 q h
      · exact hF _ (hL q h)⟩, hA⟩ T' rfl X'
  exact ⟨t2, st t2 a1, b1⟩
theorem m_pre {X : (Nat → Prop) → State → Prop} {n' o : Nat} {ad' : Nat → Nat} {E1 : Nat → va_E} {av : List Value} (V : mV D y A s H0 H locs n ad E) (hs : ∀ c, c < n' → o + c < n ∧ ad' c = ad (o + c)) (hE : ∀ c, c < n' → E1 c = E (o + c)) (hX : ∀ U : State, U.heap = H → s.WarmedH U.vm → X (mFree n' ad' H.size) U) : ∀ U : State, U.heap = H → s.WarmedH U.vm → va_Pc av (mPre D y n' ad' E1 H.size X) av.toArray U := by
  obtain ⟨hK, hP, hD, hS, hA⟩ := V
  intro U hU hW
  refine ⟨rfl, by rw [hU], ?_, va_K.moved hW.alike hK, ?_, hX U hU hW⟩
  · rw [hU]
    exact mP_sub hP (fun c hc => ⟨(hs c hc).1, (hs c hc).2, hE c hc⟩)
  · exact mD_sub (hD.weaken (fun _ _ _ _ => trivial)) hs
variable {Ts : List Cond} {own C : String} {yn : MethodName} {bytes : ByteArray} {maxL nL index nA mc ms n' o : Nat} {ret : Option FieldType} {ws : List Cond} {rm : Room} {ad' : Nat → Nat} {X : (Nat → Prop) → State → Prop} {E1 E1' E2 : Nat → va_E} {r : Option Value} {b : Nat} {As st0 st1 : List Value}
theorem m_callV (S : CallFix p m c cc nL s args Ts own) (hM : mC l yn ws rm D y n' ad' X E1 (.ref (ad b) :: As) r E1' mc ms) (cw : CallW R s args own C index yn bytes maxL ret ws rm mc ms nA) (hX0 : mXok X) (V : mV D y A s H0 H locs n ad E) (hs : ∀ c, c < n' → o + c < n ∧ ad' c = ad (o + c)) (hE : ∀ c, c < n' → E1 c = E (o + c)) (h2 : ∀ c, c < n → mGl E o n' E1' c = E2 c)
    {ci : Nat} {fs : List Value} {T : u_T} {N : Nat} (hb0 : b < n) (he : E b = .inr (ci, fs)) (hcl : vwCl[ci]? = some (C, T, N)) (hX : ∀ U : State, U.heap = H → s.WarmedH U.vm → X (mFree n' ad' H.size) U) (hn : As.length = nA) (hl : ls.size = nL) (hst0 : st0 = As.reverse ++ .ref (ad b) :: rest) (hW : (rest.map fun v => v.category).sum ≤ 8) (hf : cells + mc ≤ R.cells ∧ slots + ms ≤ R.slots) (hst : r.toList ++ rest = st1)
    (hdg : decode cc pc = .ok (.invokevirtual index, 3)) (kk : ∀ (H1 : Heap) (locs1 : List Loc), mV D y A s H0 H1 locs1 n ad E2 → W p l e R s m args below meth c H1 locs1 (cells + mc) (slots + ms) Q (F0 m (pc + 3) ls st1)) : W p l e R s m args below meth c H locs cells slots Q (F0 m pc ls st0) :=
  m_ret V (va_runV S (hM H.size) cw ⟨mPre_blind hX0, va_recv V.1 V.2.1 hcl ((mWl_get hb0).trans (by rw [he])), m_pre V hs hE hX⟩ rfl hn hl hst0 (lv_room hW) hdg hf) hs h2 hst kk
theorem m_callS (S : CallFix p m c cc nL s args Ts own) (hM : mC l yn ws rm D y n' ad' X E1 As r E1' mc ms) (cw : CallB R s args own index yn bytes maxL ret ws rm mc ms nA ∧ (Cond.static yn).before args s = true) (hX0 : mXok X) (V : mV D y A s H0 H locs n ad E) (hs : ∀ c, c < n' → o + c < n ∧ ad' c = ad (o + c)) (hE : ∀ c, c < n' → E1 c = E (o + c)) (h2 : ∀ c, c < n → mGl E o n' E1' c = E2 c)
    (hX : ∀ U : State, U.heap = H → s.WarmedH U.vm → X (mFree n' ad' H.size) U) (hn : As.length = nA) (hl : ls.size = nL) (hst0 : st0 = As.reverse ++ rest) (hW : (rest.map fun v => v.category).sum ≤ 8) (hf : cells + mc ≤ R.cells ∧ slots + ms ≤ R.slots) (hst : r.toList ++ rest = st1)
    (hdg : decode cc pc = .ok (.invokestatic index, 3)) (kk : ∀ (H1 : Heap) (locs1 : List Loc), mV D y A s H0 H1 locs1 n ad E2 → W p l e R s m args below meth c H1 locs1 (cells + mc) (slots + ms) Q (F0 m (pc + 3) ls st1)) : W p l e R s m args below meth c H locs cells slots Q (F0 m pc ls st0) :=
  m_ret V (va_runS S (hM H.size) cw ⟨mPre_blind hX0, m_pre V hs hE hX⟩ rfl hn hl hst0 (lv_room hW) hdg hf) hs h2 hst kk
end MRows
section MEnds
variable {p : Program} {l : Launch} {e : Env} {R : Room} {s : State} {m : MethodId} {args : Array Value} {below : List Frame} {meth : Method} {c : Code} {H : Heap} {locs : List Loc} {cells slots mc ms sz : Nat}
variable {cc : ByteArray} {pc : Nat} {ls : Array Slot} {rest : List Value} {D : va_G} {y : Nat → ClassId} {n : Nat} {ad : Nat → Nat} {E : Nat → va_E}
theorem m_end {r : Option Value} (V : mV D y (mFree n ad s.heap.size) s s.heap H locs n ad E) : ∀ t : State, t.heap = H → s.WarmedH t.vm → mQ r D n ad E s.heap.size args s (.returned r) t := fun t ht _ => ⟨rfl, by rw [ht]; exact V.2.1, V.2.2.2.1.F ht⟩
theorem m_iret (hx : p.tables.exec = Jvm.exec) (hb : c.code = cc) (hr : meth.sig.returnType = some .int) (hlk : meth.locks = false) (V : mV D y (mFree n ad s.heap.size) s s.heap H locs n ad E) {v : Int32} (hc : cells ≤ mc) (hs : slots ≤ ms) (hdg : decode cc pc = .ok (.ireturn, 1)) :
    W p l e R s m args below meth c H locs cells slots (MQ below (mQ (some (.int v)) D n ad E s.heap.size) args s mc ms (mFree n ad s.heap.size)) (F0 m pc ls [.int v]) :=
  W.widen hc hs (W.iret hx hb hr (m_end V) V.2.2.2.1.2.2 hdg hlk)
/-- a boolean, 0 or 1 -/
theorem m_zret (hx : p.tables.exec = Jvm.exec) (hb : c.code = cc) (hr : meth.sig.returnType = some .boolean) (hlk : meth.locks = false) (V : mV D y (mFree n ad s.heap.size) s s.heap H locs n ad E) {v : Int32} (hv : v = 0 ∨ v = 1) (hc : cells ≤ mc) (hs : slots ≤ ms) (hdg : decode cc pc = .ok (.ireturn, 1)) :
    W p l e R s m args below meth c H locs cells slots (MQ below (mQ (some (.int v)) D n ad E s.heap.size) args s mc ms (mFree n ad s.heap.size)) (F0 m pc ls [.int v]) :=
  W.widen hc hs (W.zret hx hb hr (by rcases hv with rfl | rfl <;> rfl) (m_end V) V.2.2.2.1.2.2 hdg hlk)
theorem m_vret (hx : p.tables.exec = Jvm.exec) (hb : c.code = cc) (hr : meth.sig.returnType = none) (hlk : meth.locks = false) (V : mV D y (mFree n ad s.heap.size) s s.heap H locs n ad E) (hc : cells ≤ mc) (hs : slots ≤ ms) (hdg : decode cc pc = .ok (.return_, 1)) :
    W p l e R s m args below meth c H locs cells slots (MQ below (mQ none D n ad E s.heap.size) args s mc ms (mFree n ad s.heap.size)) (F0 m pc ls []) :=
  W.widen hc hs (W.vret hx hb hr (m_end V) V.2.2.2.1.2.2 hdg hlk)
theorem m_aret (hx : p.tables.exec = Jvm.exec) (hb : c.code = cc) {C : String} (hr : meth.sig.returnType = some (.object C)) (hlk : meth.locks = false) (V : mV D y (mFree n ad s.heap.size) s s.heap H locs n ad E) {a : Nat} (hc : cells ≤ mc) (hs : slots ≤ ms) (hdg : decode cc pc = .ok (.areturn, 1)) :
    W p l e R s m args below meth c H locs cells slots (MQ below (mQ (some (.ref a)) D n ad E s.heap.size) args s mc ms (mFree n ad s.heap.size)) (F0 m pc ls [.ref a]) :=
  W.widen hc hs (W.aret hx hb hr (Or.inl ⟨C, rfl⟩) (Or.inr ⟨a, rfl⟩) (m_end V) V.2.2.2.1.2.2 hdg hlk)
theorem m_lret (hx : p.tables.exec = Jvm.exec) (hb : c.code = cc) (hr : meth.sig.returnType = some .long) (hlk : meth.locks = false) (V : mV D y (mFree n ad s.heap.size) s s.heap H locs n ad E) {v : Int64} (hc : cells ≤ mc) (hs : slots ≤ ms) (hdg : decode cc pc = .ok (.lreturn, 1)) :
    W p l e R s m args below meth c H locs cells slots (MQ below (mQ (some (.long v)) D n ad E s.heap.size) args s mc ms (mFree n ad s.heap.size)) (F0 m pc ls [.long v]) :=
  W.widen hc hs (W.lret hx hb hr (m_end V) V.2.2.2.1.2.2 hdg hlk)
end MEnds
section MStart
variable {l : Launch} {yn : MethodName} {ws ws' : List Cond} {rm : Room} {D : va_G} {y : Nat → ClassId} {n : Nat} {ad : Nat → Nat} {X : (Nat → Prop) → State → Prop} {E E' : Nat → va_E} {vs : List Value} {r : Option Value} {mc ms : Nat} {cc : ByteArray} {maxL : Nat} {ret : Option FieldType}
theorem m_start (hy : plainName yn.cls = true) (hw : ws = Cond.code yn cc maxL ret :: ws') (hlen : (lg_sl vs).length ≤ maxL)
    (body : ∀ (p : Program) (e : Env) (s : State) (m : MethodId) (args : Array Value) (below : List Frame) (meth : Method) (c : Code) (ls : Array Slot), mBd p s m args meth c cc maxL ws yn.cls ret → meth.name = yn.name → mV D y (mFree n ad s.heap.size) s s.heap s.heap [] n ad E → X (mFree n ad s.heap.size) s → lv_has ls maxL (lv_args 0 vs) →
      W p l e rm s m args below meth c s.heap [] 0 0 (MQ below (mQ r D n ad E' s.heap.size) args s mc ms (mFree n ad s.heap.size)) (F0 m 0 ls [])) : mC l yn ws rm D y n ad X E vs r E' mc ms := by
  intro sz
  refine Met.ofW (cc := cc) (maxL := maxL) (ret := ret) hy hw ?_
  intro p e s m args below meth c s₁ B hml hv
  obtain ⟨rfl, hsz, hP, hK, hD0, hX⟩ := hv
  have hx := B.exec
  have hb := B.bytes
  have hr := B.returns
  have hts := atoms_spec (ws := ws) B.pre
  have hown : s.vm.findClass yn.cls = some m.cls := findClass_of_methodNamed B.named
  have hlocks := B.notSynchronized
  have hin : meth.name = yn.name := (name_of_methodNamed B.named B.method).1
  subst hsz
  have hl := lv_entry vs (n := maxL) hlen
  rw [lg_entry_eq]
  exact body p e s m _ below meth c _ ⟨hx, hb, hml, hown, hts, hr, hlocks⟩ hin ⟨hK, hP, mD_self hD0, va_S.rf, fun q h => Or.inr h⟩ hX hl
end MStart
