/-! ===== constructors: rows ===== -/
theorem mK_of {s : State} {args : Array Value} {D : va_G} (hK : ∀ (c : Nat) (q : vw_C), vwCl[c]? = some q → u_Kn s q.1 q.2.1 q.2.2 (D.1 c) (D.2 c)) (hI : (Cond.arrayClass .int).before args s = true) (hJ : (Cond.arrayClass .long).before args s = true) (hG : va_AO "MinuteBank$Game" s) (hL : va_AO "MinuteBank$Loan" s) (hP : va_AO "MinuteBank$Player" s) : ∃ y : Nat → ClassId, va_K D vwCl (mTy y) s := by
  obtain ⟨cI, kI, pI, i1, i2, i3⟩ := Cond.arrayClass_spec hI
  obtain ⟨cJ, kJ, pJ, j1, j2, j3⟩ := Cond.arrayClass_spec hJ
  obtain ⟨pG, cG, kG, g1, g2, g3, g4, g5⟩ := Cond.arrayOver_spec hG
  obtain ⟨pL, cL, kL, l1, l2, l3, l4, l5⟩ := Cond.arrayOver_spec hL
  obtain ⟨pP, cP, kP, p1, p2, p3, p4, p5⟩ := Cond.arrayOver_spec hP
  refine ⟨fun k => match k with | 0 => cI | 1 => cG | 2 => cL | 3 => cP | _ => cJ, hK, fun k q hk => ?_⟩
  match k, hk with
  | 0, hk => cases hk; exact ⟨fun n z => ⟨fun k h => (by cases h), kI, i2, pI, i3⟩, i1⟩
  | 1, hk => cases hk; exact ⟨fun n z => ⟨fun k h => (by cases h), kG, g3, pG, g4⟩, kG, pG, g3, g4, g1, g5⟩
  | 2, hk => cases hk; exact ⟨fun n z => ⟨fun k h => (by cases h), kL, l3, pL, l4⟩, kL, pL, l3, l4, l1, l5⟩
  | 3, hk => cases hk; exact ⟨fun n z => ⟨fun k h => (by cases h), kP, p3, pP, p4⟩, kP, pP, p3, p4, p1, p5⟩
  | 4, hk => cases hk; exact ⟨fun n z => ⟨fun k h => (by cases h), kJ, j2, pJ, j3⟩, j1⟩
  | k + 5, hk => simp [mTy] at hk
/-- what constructors are begun with beside the world -/
def mNm : List (String × Nat × MethodName × String) := [(RX0, 9, yX3_init, RX5), (RX4, 40, yX2_init, RX5), (RX4, 41, yX1_init, RX5), (RX4, 42, yX0_init, RX5), (RX7, 9, yX6_init, RX7)]
def mXc : (Nat → Prop) → State → Prop := fun _ U => (∀ q ∈ mNm, va_Nw (.methodLinkNest q.1 q.2.1 q.2.2.1 q.2.2.2) U) ∧ va_AO "MinuteBank$Game" U ∧ va_AO "MinuteBank$Loan" U ∧ va_AO "MinuteBank$Player" U
theorem mXc_ok : mXok mXc := fun A U g mk a h => ⟨fun q hq => va_Nw.same (u := U) rfl rfl (h.1 q hq), va_AO.moved (u := U) (U := U.calling g mk a) (Vm.Alike.refl U.vm) h.2.1, va_AO.moved (u := U) (U := U.calling g mk a) (Vm.Alike.refl U.vm) h.2.2.1, va_AO.moved (u := U) (U := U.calling g mk a) (Vm.Alike.refl U.vm) h.2.2.2⟩
theorem mXc_at {A B : Nat → Prop} {s U : State} (h : mXc A s) (hW : s.WarmedH U.vm) : mXc B U := ⟨fun q hq => va_Nw.warmM hW (h.1 q hq), va_AO.moved hW.alike h.2.1, va_AO.moved hW.alike h.2.2.1, va_AO.moved hW.alike h.2.2.2⟩
/-- the end of a constructor that makes more cells -/
def mQN (D : va_G) (n' : Nat) (E' : (Nat → Nat) → Nat → va_E) (h0 sz : Nat) : Array Value → State → Outcome → State → Prop :=
  fun _ st oc t => oc = .returned none ∧ (∃ ad : Nat → Nat, ad 0 = h0 ∧ va_P D vwCl (mWl n' ad (E' ad)) t.heap ∧ va_D (mFree 1 (fun _ => h0) sz) (mWl n' ad (E' ad))) ∧ va_F (mFree 1 (fun _ => h0) sz) st t
def mCN (l : Launch) (yn : MethodName) (ws : List Cond) (rm : Room) (D : va_G) (y : Nat → ClassId) (X : (Nat → Prop) → State → Prop) (h0 : Nat) (E0 : va_E) (n' : Nat) (E' : (Nat → Nat) → Nat → va_E) (mc ms : Nat) : Prop :=
  ∀ sz, Met l yn ws rm (va_Pc [.ref h0] (mPre D y 1 (fun _ => h0) (fun _ => E0) sz X)) (mQN D n' E' h0 sz) mc ms (mFree 1 (fun _ => h0) sz)
section MInit
variable {p : Program} {l : Launch} {e : Env} {R : Room} {s : State} {m : MethodId} {args : Array Value} {below : List Frame} {meth : Method} {c : Code} {H : Heap} {locs : List Loc} {cells slots : Nat} {Q : State → Prop}
variable {cc : ByteArray} {pc : Nat} {ls : Array Slot} {rest : List Value} {D : va_G} {y : Nat → ClassId} {A : Nat → Prop} {H0 : Heap} {n : Nat} {ad : Nat → Nat} {E : Nat → va_E}
theorem m_obj (hx : p.tables.exec = Jvm.exec) (hb : c.code = cc) {nL : Nat} (hml : c.maxLocals = nL) (hl : ls.size = nL) {own : String} {index : Nat} (hown : s.vm.findClass own = some m.cls) (hlink : (Cond.methodLink own index Lib.objectInit).before args s = true) (hin : (Cond.instanceMethod Lib.objectInit).before args s = true) (hcode : (Cond.code Lib.objectInit ⟨#[0xb1]⟩ 1 none).before args s = true) {a : Nat} (hf : 1 ≤ R.frames) (hlo : (rest.map fun v => v.category).sum + 12 ≤ R.locals) (hdg : decode cc pc = .ok (.invokespecial index, 3))
    (kk : W p l e R s m args below meth c H locs cells slots Q (F0 m (pc + 3) ls rest)) : W p l e R s m args below meth c H locs cells slots Q (F0 m pc ls (.ref a :: rest)) := by
  refine W.objInit hx hb hown hlink hin hcode (g := F0 m pc ls (.ref a :: rest)) rfl (hl.trans hml.symm) rfl hdg hf (by show 2 * 0 + _ + 12 ≤ _; omega) ?_
  exact W.eq (g2 := F0 m (pc + 3) ls rest) rfl kk
theorem m_new (hx : p.tables.exec = Jvm.exec) (hb : c.code = cc) {own C : String} {T : u_T} {N ci index : Nat} {Ts : List Cond} (hts : ∀ w ∈ Ts, w.before args s = true) (hin : ∀ w ∈ u_ws C T N, w ∈ Ts) (ty : Nat → FieldType) (hty : ∀ k, k < N → parseFieldDescriptor (T k).2.2.1 = some (ty k)) (hown : s.vm.findClass own = some m.cls) (hcl : (Cond.classLink own index C).before args s = true) (hinst : (Cond.instantiable C N).before args s = true) (hini : (Cond.initialized C).before args s = true)
    (V : mV D y A s H0 H locs n ad E) (hc : vwCl[ci]? = some (C, T, N)) {fs : List Value} (hfs : ∀ j, j < N → defaultValue (ty j) = vp_V fs j) (hcells : cells + 1 ≤ R.cells) (hslots : slots + N ≤ R.slots) (hdg : decode cc pc = .ok (.new index, 3))
    (kk : ∀ (q : Nat) (H1 : Heap), mV D y A s H0 H1 locs (n + 1) (va_up ad n q) (va_up E n (.inr (ci, fs))) → W p l e R s m args below meth c H1 locs (cells + 1) (slots + N) Q (F0 m (pc + 3) ls (.ref q :: rest))) : W p l e R s m args below meth c H locs cells slots Q (F0 m pc ls rest) := by
  obtain ⟨hK, hP, hD, hS, hA⟩ := V
  refine va_new hx hb hts hin ty hty hown hcl hinst hini hK hP hD hS hA hc hfs hcells hslots hdg (fun q H1 hP1 hD1 hS1 => ?_)
  rw [mWl_push] at hP1 hD1
  exact kk q H1 ⟨hK, hP1, hD1, hS1, hA⟩
theorem m_newq (hx : p.tables.exec = Jvm.exec) (hb : c.code = cc) {own C : String} {index : Nat} (hown : s.vm.findClass own = some m.cls) (hclink : (Cond.classLink own index C).before args s = true) (hover : va_AO C s) (V : mV D y A s H0 H locs n ad E) (t0 : Nat) {cA : ClassId} (ht : (mTy y)[t0]? = some (cA, .object C))
    {z : Int32} {Z : Nat} (hn : ¬ z < 0) (hN : z.toNatClampNeg = Z) (hbytes : Z * 4 ≤ 536870912) (hcells : cells + 1 ≤ R.cells) (hslots : slots + Z ≤ R.slots) (hdg : decode cc pc = .ok (.anewarray index, 3))
    (kk : ∀ (q : Nat) (H1 : Heap), mV D y A s H0 H1 locs (n + 1) (va_up ad n q) (va_up E n (.inl (cA, Z, .inr (.inr (.inr (.inr (fun _ => none))))))) → W p l e R s m args below meth c H1 locs (cells + 1) (slots + Z) Q (F0 m (pc + 3) ls (.ref q :: rest))) : W p l e R s m args below meth c H locs cells slots Q (F0 m pc ls (.int z :: rest)) := by
  obtain ⟨hK, hP, hD, hS, hA⟩ := V
  refine va_newq hx hb hown hclink hover hK hP hD hS hA hn hN hbytes hcells hslots hdg (fun q cA' H1 hK1 hP1 hD1 hS1 => ?_)
  obtain ⟨k1, p1, a1, a2, a3, a4⟩ := (hK1.2 5 (cA', .object C) rfl).2
  obtain ⟨k2, p2, b1, b2, b3, b4⟩ := (hK.2 t0 (cA, .object C) ht).2
  have h3 : cA' = cA := Option.some.inj (a4.symm.trans b4)
  subst h3
  rw [mWl_push] at hP1 hD1
  exact kk q H1 ⟨hK, hP1, hD1, hS1, hA⟩
/-- putfield of a final reference in a constructor -/
theorem m_putF (hx : p.tables.exec = Jvm.exec) (hb : c.code = cc) {own C : String} {T : u_T} {N ci index : Nat} {Ts : List Cond} (hts : ∀ w ∈ Ts, w.before args s = true) (hown : s.vm.findClass own = some m.cls) (hnm9 : meth.name = "<init>") (V : mV D y A s H0 H locs n ad E) (hin : ∀ w ∈ u_ws C T N, w ∈ Ts) (ty0 : Nat → FieldType) (hty : ∀ k, k < N → parseFieldDescriptor (T k).2.2.1 = some (ty0 k)) (hnm : ∀ a, a < N → ∀ b, b < N → a ≠ b → (T a).2.1 ≠ (T b).2.1)
    {a : Nat} {fs fs' : List Value} {v : Value} {ty : FieldType} (ha : a < n) (he : E a = .inr (ci, fs)) (hcl : vwCl[ci]? = some (C, T, N)) (k : Nat) (hN : k < N) (hl : k < fs.length) (hC : (T k).1 = C) (hCo : C = own) (hlink : (Cond.fieldLink own index C (T k).2.1 (T k).2.2.1).before args s = true) (hfin : (T k).2.2.2 = true) (hd : parseFieldDescriptor (T k).2.2.1 = some ty) (hnar : narrow ty v = v) (hfit : fits ty v = true) (hfs : fs.set k v = fs')
    {E' : Nat → va_E} (hE : ∀ c', c' < n → va_up E a (.inr (ci, fs')) c' = E' c') {z : Value} (hz : z = .ref (ad a))
    (hdg : decode cc pc = .ok (.putfield index, 3)) (kk : ∀ (H1 : Heap) (locs1 : List Loc), mV D y A s H0 H1 locs1 n ad E' → W p l e R s m args below meth c H1 locs1 cells slots Q (F0 m (pc + 3) ls rest)) : W p l e R s m args below meth c H locs cells slots Q (F0 m pc ls (v :: z :: rest)) := by
  obtain ⟨hK, hP, hD, hS, hA⟩ := V
  subst hfs; subst hz
  refine va_putF (ty := ty) hx hb hts hin ty0 hty hnm hown hK hP hD hS a ((mWl_get ha).trans (by rw [he])) hcl k hN hlink (fun x h => by rw [hC] at h; exact h) hfin hnm9 (hC.trans hCo) hd hnar hfit hl hdg (fun H1 locs1 hP1 hD1 hS1 => ?_)
  rw [mWl_set, mWl_congr hE] at hP1 hD1
  exact kk H1 locs1 ⟨hK, hP1, hD1, hS1, hA⟩
/-- an object put into an array -/
theorem m_aast (hx : p.tables.exec = Jvm.exec) (hb : c.code = cc) (V : mV D y A s H0 H locs n ad E) (t0 : Nat) {a b ci z : Nat} {cA : ClassId} {r : vw_C} {vs : List Value} {f : Nat → Option Nat} (ha : a < n) (he : E a = .inl (cA, z, .inr (.inr (.inr (.inr f))))) (ht : (mTy y)[t0]? = some (cA, .object r.1)) (hbn : b < n) (hv : E b = .inr (ci, vs)) (hc : vwCl[ci]? = some r) {i : Int32} (hi : mIn i z)
    {E' : Nat → va_E} (hE : ∀ c', c' < n → va_up E a (.inl (cA, z, .inr (.inr (.inr (.inr (va_up f i.toNatClampNeg (some (ad b)))))))) c' = E' c') {w x : Value} (hw : w = .ref (ad b)) (hx9 : x = .ref (ad a))
    (hdg : decode cc pc = .ok (.aastore, 1)) (kk : ∀ (H1 : Heap) (locs1 : List Loc), mV D y A s H0 H1 locs1 n ad E' → W p l e R s m args below meth c H1 locs1 cells slots Q (F0 m (pc + 1) ls rest)) : W p l e R s m args below meth c H locs cells slots Q (F0 m pc ls (w :: .int i :: x :: rest)) := by
  obtain ⟨hK, hP, hD, hS, hA⟩ := V
  subst hw; subst hx9
  refine va_astq hx hb hK hP hD hS a t0 b ci ((mWl_get ha).trans (by rw [he])) ht ((mWl_get hbn).trans (by rw [hv])) hc (mIn_vp hi) hdg (fun H1 locs1 hP1 hD1 hS1 => ?_)
  rw [mWl_set, mWl_congr hE] at hP1 hD1
  exact kk H1 locs1 ⟨hK, hP1, hD1, hS1, hA⟩
variable {Ts : List Cond} {own C host : String} {yn : MethodName} {bytes : ByteArray} {maxL nL index nA mc ms o : Nat} {ret : Option FieldType} {ws : List Cond} {rm : Room} {X : (Nat → Prop) → State → Prop} {E1 E1' E2 : Nat → va_E} {b : Nat} {st0 st1 : List Value}
/-- a constructor's call that makes nothing: the object is the cell o -/
theorem m_callIN (S : CallFix p m c cc nL s args Ts own) {h0 : Nat} (hM : mC l yn ws rm D y 1 (fun _ => h0) X (fun _ => E o) [.ref h0] none E1' mc ms) (hh0 : h0 = ad o) (cw : va_CN R s args own index yn host bytes maxL none ws rm mc ms 0 ∧ yn.name = "<init>" ∧ (Cond.instanceMethod yn).before args s = true) (hX0 : mXok X) (V : mV D y A s H0 H locs n ad E) (ho : o < n) (h2 : ∀ c, c < n → (if c = o then E1' 0 else E c) = E2 c)
    (hX : ∀ U : State, U.heap = H → s.WarmedH U.vm → X (mFree 1 (fun _ => h0) H.size) U) (hl : ls.size = nL) (hW : (rest.map fun v => v.category).sum ≤ 8) (hf : cells + mc ≤ R.cells ∧ slots + ms ≤ R.slots)
    (hdg : decode cc pc = .ok (.invokespecial index, 3)) (kk : ∀ (H1 : Heap) (locs1 : List Loc), mV D y A s H0 H1 locs1 n ad E2 → W p l e R s m args below meth c H1 locs1 (cells + mc) (slots + ms) Q (F0 m (pc + 3) ls rest)) : W p l e R s m args below meth c H locs cells slots Q (F0 m pc ls (.ref h0 :: rest)) := by
  subst hh0
  have hs : ∀ c, c < 1 → o + c < n ∧ (fun _ : Nat => ad o) c = ad (o + c) := fun c hc => by
    have : c = 0 := by omega
    subst this
    exact ⟨by omega, rfl⟩
  have hE : ∀ c, c < 1 → (fun _ : Nat => E o) c = E (o + c) := fun c hc => by
    have : c = 0 := by omega
    subst this
    rfl
  refine m_ret (n' := 1) (o := o) (r := none) V (va_runIN (As := []) (rest := rest) S (hM H.size) cw ⟨mPre_blind hX0, m_pre V hs hE hX⟩ rfl rfl hl rfl (lv_room hW) hdg hf) hs (fun c hc => ?_) rfl kk
  rw [← h2 c hc]
  unfold mGl
  by_cases h : c = o
  · subst h
    rw [if_pos (by omega), if_pos rfl, Nat.sub_self]
  · rw [if_neg (by omega), if_neg h]
/-- the world behind a constructor that makes cells -/
def mAd (ad ad1 : Nat → Nat) (n : Nat) : Nat → Nat := fun c => if c < n then ad c else ad1 (c - n + 1)
def mEd (E : Nat → va_E) (o n : Nat) (E1 : Nat → va_E) : Nat → va_E := fun c => if c < n then (if c = o then E1 0 else E c) else E1 (c - n + 1)
theorem m_retN {n' : Nat} {E' : (Nat → Nat) → Nat → va_E} {a9 : Array Value} (V : mV D y A s H0 H locs n ad E) (ho : o < n) (hn' : 1 ≤ n')
    (hr : va_Run p l e R s m args below meth c H locs cells slots mc ms (F0 m pc ls st0) rest (mQN D n' E' (ad o) H.size a9) (mFree 1 (fun _ => ad o) H.size))
    (kk : ∀ (ad1 : Nat → Nat) (H1 : Heap) (locs1 : List Loc), ad1 0 = ad o → mV D y A s H0 H1 locs1 (n + (n' - 1)) (mAd ad ad1 n) (mEd E o n (E' ad1)) → W p l e R s m args below meth c H1 locs1 (cells + mc) (slots + ms) Q (F0 m (pc + 3) ls rest)) : W p l e R s m args below meth c H locs cells slots Q (F0 m pc ls st0) := by
  obtain ⟨hK, hP, hD, hS, hA⟩ := V
  intro T hT X9
  obtain ⟨v, st₀, t, T', L, h0, X', hL, e1, e2, ⟨hv, ⟨ad1, had, hP1, hD1⟩, hz, hk⟩, st⟩ := hr T hT X9
  cases hv
  rw [h0] at hz hk
  have hF : ∀ q, mFree 1 (fun _ => ad o) H.size q → A q := by
    rintro q (⟨c, -, rfl⟩ | g)
    · exact hD.2 o _ (mWl_get ho)
    · exact hA q (Nat.le_trans hS.1 g)
  have hk1 : ∀ q : Nat, q < H.size → ¬ mFree 1 (fun _ => ad o) H.size q → T'.heap[q]? = H[q]? := fun q h1 h3 => by rw [e1]; exact hk q h1 h3
  rw [← e1] at hP1 hz
  have hlt : ∀ c, c < n → ad c < H.size := fun c hc => (hP c _ (mWl_get hc)).lt
  have hnew : ∀ c, 1 ≤ c → c < n' → H.size ≤ ad1 c := fun c h1 h2 => by
    rcases hD1.2 c _ (mWl_get h2) with ⟨_, -, g⟩ | g
    · have g : ad1 c = ad o := g
      have := hD1.1 c 0 _ _ (mWl_get h2) (mWl_get (by omega)) (g.trans had.symm)
      omega
    · exact g
  have hV : mV D y A s H0 T'.heap (locs ++ L) (n + (n' - 1)) (mAd ad ad1 n) (mEd E o n (E' ad1)) := by
    refine ⟨hK, fun k q hq => ?_, ⟨fun i j x z hi hj hxz => ?_, fun k q hq => ?_⟩, ⟨Nat.le_trans hS.1 hz, fun q h1 h3 => by rw [hk1 q (Nat.lt_of_lt_of_le h1 hS.1) (fun z => h3 (hF q z))]; exact hS.2.1 q h1 h3, fun q hq => by
      rcases List.mem_append.mp hq with h | h
      · exact hS.2.2 q h
      · exact hF _ (hL q h)⟩, hA⟩
    · obtain ⟨h1, rfl⟩ := mWl_of hq
      by_cases hc : k < n
      · by_cases hko : k = o
        · have hh := hP1 0 _ (mWl_get (by omega))
          unfold mAd mEd
          rw [if_pos hc, if_pos hc, if_pos hko, hko, ← had]
          exact hh
        · have hh := hP k _ (mWl_get hc)
          unfold mAd mEd
          rw [if_pos hc, if_pos hc, if_neg hko]
          refine hh.kept (hk1 _ (hlt k hc) ?_)
          rintro (⟨_, -, g⟩ | g)
          · exact hko (hD.1 k o _ _ (mWl_get hc) (mWl_get ho) g)
          · have := hlt k hc
            omega
      · have hh := hP1 (k - n + 1) _ (mWl_get (by omega))
        unfold mAd mEd
        rw [if_neg hc, if_neg hc]
        exact hh
    · obtain ⟨h1, rfl⟩ := mWl_of hi
      obtain ⟨h2, rfl⟩ := mWl_of hj
      have hxz : mAd ad ad1 n i = mAd ad ad1 n j := hxz
      unfold mAd at hxz
      by_cases hi9 : i < n <;> by_cases hj9 : j < n
      · rw [if_pos hi9, if_pos hj9] at hxz
        exact hD.1 i j _ _ (mWl_get hi9) (mWl_get hj9) hxz
      · rw [if_pos hi9, if_neg hj9] at hxz
        have g1 := hlt i hi9
        have g2 := hnew (j - n + 1) (by omega) (by omega)
        omega
      · rw [if_neg hi9, if_pos hj9] at hxz
        have g1 := hlt j hj9
        have g2 := hnew (i - n + 1) (by omega) (by omega)
        omega
      · rw [if_neg hi9, if_neg hj9] at hxz
        have := hD1.1 (i - n + 1) (j - n + 1) _ _ (mWl_get (by omega)) (mWl_get (by omega)) hxz
        omega
    · obtain ⟨h1, rfl⟩ := mWl_of hq
      show A (mAd ad ad1 n k)
      unfold mAd
      by_cases hc : k < n
      · rw [if_pos hc]
        exact hD.2 k _ (mWl_get hc)
      · rw [if_neg hc]
        exact hF _ (hD1.2 (k - n + 1) _ (mWl_get (by omega)))
  obtain ⟨t2, a1, b1⟩ := kk ad1 T'.heap (locs ++ L) had hV T' rfl X'
  exact ⟨t2, st t2 a1, b1⟩
theorem m_pre1 (V : mV D y A s H0 H locs n ad E) (ho : o < n) (hX : ∀ U : State, U.heap = H → s.WarmedH U.vm → X (mFree 1 (fun _ => ad o) H.size) U) : ∀ U : State, U.heap = H → s.WarmedH U.vm → va_Pc [.ref (ad o)] (mPre D y 1 (fun _ => ad o) (fun _ => E o) H.size X) [Value.ref (ad o)].toArray U := by
  refine m_pre (o := o) V (fun c hc => ?_) (fun c hc => ?_) hX
  · have : c = 0 := by omega
    subst this
    exact ⟨by omega, rfl⟩
  · have : c = 0 := by omega
    subst this
    rfl
theorem m_callNN {n' : Nat} {E' : (Nat → Nat) → Nat → va_E} (S : CallFix p m c cc nL s args Ts own) {h0 : Nat} (hh0 : h0 = ad o) (hM : mCN l yn ws rm D y X (ad o) (E o) n' E' mc ms) (cw : va_CN R s args own index yn host bytes maxL none ws rm mc ms 0 ∧ yn.name = "<init>" ∧ (Cond.instanceMethod yn).before args s = true) (hX0 : mXok X) (V : mV D y A s H0 H locs n ad E) (ho : o < n) (hn' : 1 ≤ n')
    (hX : ∀ U : State, U.heap = H → s.WarmedH U.vm → X (mFree 1 (fun _ => ad o) H.size) U) (hl : ls.size = nL) (hW : (rest.map fun v => v.category).sum ≤ 8) (hf : cells + mc ≤ R.cells ∧ slots + ms ≤ R.slots) (hdg : decode cc pc = .ok (.invokespecial index, 3))
    (kk : ∀ (ad1 : Nat → Nat) (H1 : Heap) (locs1 : List Loc), ad1 0 = ad o → mV D y A s H0 H1 locs1 (n + (n' - 1)) (mAd ad ad1 n) (mEd E o n (E' ad1)) → W p l e R s m args below meth c H1 locs1 (cells + mc) (slots + ms) Q (F0 m (pc + 3) ls rest)) : W p l e R s m args below meth c H locs cells slots Q (F0 m pc ls (.ref h0 :: rest)) := by
  subst hh0
  exact m_retN V ho hn' (va_runIN (As := []) (rest := rest) S (hM H.size) cw ⟨mPre_blind hX0, m_pre1 V ho hX⟩ rfl rfl hl rfl (lv_room hW) hdg hf) kk
theorem m_callNI {n' : Nat} {E' : (Nat → Nat) → Nat → va_E} (S : CallFix p m c cc nL s args Ts own) {h0 : Nat} (hh0 : h0 = ad o) (hM : mCN l yn ws rm D y X (ad o) (E o) n' E' mc ms) (cw : CallB R s args own index yn bytes maxL none ws rm mc ms 0 ∧ yn.name = "<init>" ∧ (Cond.instanceMethod yn).before args s = true) (hX0 : mXok X) (V : mV D y A s H0 H locs n ad E) (ho : o < n) (hn' : 1 ≤ n')
    (hX : ∀ U : State, U.heap = H → s.WarmedH U.vm → X (mFree 1 (fun _ => ad o) H.size) U) (hl : ls.size = nL) (hW : (rest.map fun v => v.category).sum ≤ 8) (hf : cells + mc ≤ R.cells ∧ slots + ms ≤ R.slots) (hdg : decode cc pc = .ok (.invokespecial index, 3))
    (kk : ∀ (ad1 : Nat → Nat) (H1 : Heap) (locs1 : List Loc), ad1 0 = ad o → mV D y A s H0 H1 locs1 (n + (n' - 1)) (mAd ad ad1 n) (mEd E o n (E' ad1)) → W p l e R s m args below meth c H1 locs1 (cells + mc) (slots + ms) Q (F0 m (pc + 3) ls rest)) : W p l e R s m args below meth c H locs cells slots Q (F0 m pc ls (.ref h0 :: rest)) := by
  subst hh0
  exact m_retN V ho hn' (va_runI (As := []) (rest := rest) S (hM H.size) cw ⟨mPre_blind hX0, m_pre1 V ho hX⟩ rfl rfl hl rfl (lv_room hW) hdg hf) kk
/-- cells in another order -/
theorem mV.perm {n' : Nat} {E' : Nat → va_E} {ad' : Nat → Nat} (V : mV D y A s H0 H locs n ad E) (g : Nat → Nat) (hg : ∀ c, c < n' → g c < n ∧ ad' c = ad (g c) ∧ E' c = E (g c)) (hi : ∀ a b, a < n' → b < n' → g a = g b → a = b) : mV D y A s H0 H locs n' ad' E' := by
  obtain ⟨hK, hP, hD, hS, hA⟩ := V
  refine ⟨hK, fun k q hk => ?_, ⟨fun i j x z hx hz e => ?_, fun k q hk => ?_⟩, hS, hA⟩
  · obtain ⟨h1, rfl⟩ := mWl_of hk
    obtain ⟨g1, g2, g3⟩ := hg k h1
    rw [g2, g3]
    exact hP (g k) _ (mWl_get g1)
  · obtain ⟨h1, rfl⟩ := mWl_of hx
    obtain ⟨h2, rfl⟩ := mWl_of hz
    obtain ⟨g1, g2, -⟩ := hg i h1
    obtain ⟨g3, g4, -⟩ := hg j h2
    have e : ad (g i) = ad (g j) := by rw [← g2, ← g4]; exact e
    exact hi i j h1 h2 (hD.1 (g i) (g j) _ _ (mWl_get g1) (mWl_get g3) e)
  · obtain ⟨h1, rfl⟩ := mWl_of hk
    obtain ⟨g1, g2, -⟩ := hg k h1
    show A (ad' k)
    rw [g2]
    exact hD.2 (g k) _ (mWl_get g1)
theorem m_vretN {sz' h0 : Nat} {n' : Nat} {E' : (Nat → Nat) → Nat → va_E} (hx : p.tables.exec = Jvm.exec) (hb : c.code = cc) (hr : meth.sig.returnType = none) (hlk : meth.locks = false) (V : mV D y (mFree 1 (fun _ => h0) s.heap.size) s s.heap H locs n' ad (E' ad)) (h9 : ad 0 = h0) (hc : cells ≤ mc) (hs : slots ≤ ms) (hdg : decode cc pc = .ok (.return_, 1)) :
    W p l e R s m args below meth c H locs cells slots (MQ below (mQN D n' E' h0 s.heap.size) args s mc ms (mFree 1 (fun _ => h0) s.heap.size)) (F0 m pc ls []) :=
  W.widen hc hs (W.vret hx hb hr (fun t ht _ => ⟨rfl, ⟨ad, h9, by rw [ht]; exact V.2.1, V.2.2.1⟩, V.2.2.2.1.F ht⟩) V.2.2.2.1.2.2 hdg hlk)
end MInit
section MStartN
variable {l : Launch} {yn : MethodName} {ws ws' : List Cond} {rm : Room} {D : va_G} {y : Nat → ClassId} {X : (Nat → Prop) → State → Prop} {E0 : va_E} {n' : Nat} {E' : (Nat → Nat) → Nat → va_E} {h0 mc ms : Nat} {cc : ByteArray} {maxL : Nat} {ret : Option FieldType}
theorem m_startN (hy : plainName yn.cls = true) (hw : ws = Cond.code yn cc maxL ret :: ws') (hlen : (lg_sl [Value.ref h0]).length ≤ maxL)
    (body : ∀ (p : Program) (e : Env) (s : State) (m : MethodId) (args : Array Value) (below : List Frame) (meth : Method) (c : Code) (ls : Array Slot), mBd p s m args meth c cc maxL ws yn.cls ret → meth.name = yn.name → mV D y (mFree 1 (fun _ => h0) s.heap.size) s s.heap s.heap [] 1 (fun _ => h0) (fun _ => E0) → X (mFree 1 (fun _ => h0) s.heap.size) s → lv_has ls maxL (lv_args 0 [Value.ref h0]) →
      W p l e rm s m args below meth c s.heap [] 0 0 (MQ below (mQN D n' E' h0 s.heap.size) args s mc ms (mFree 1 (fun _ => h0) s.heap.size)) (F0 m 0 ls [])) : mCN l yn ws rm D y X h0 E0 n' E' mc ms := by
  intro sz
  refine Met.ofW (cc := cc) (maxL := maxL) (ret := ret) hy hw ?_
  intro p e s m args below meth c s₁ B hml hv
  obtain ⟨rfl, hsz, hP, hK, hD0, hX⟩ := hv
  have hx := B.exec
  have hb := B.bytes
  have hr := B.returns
  have hts := atoms_spec (ws := ws) B.pre
  have hown : s.vm.findClass yn.cls = some m.cls := findClass_of_methodNamed B.named
  have hlocks := B.notSynchronized
  have hin : meth.name = yn.name := (name_of_methodNamed B.named B.method).1
  subst hsz
  have hl := lv_entry [Value.ref h0] (n := maxL) hlen
  rw [lg_entry_eq]
  exact body p e s m _ below meth c _ ⟨hx, hb, hml, hown, hts, hr, hlocks⟩ hin ⟨hK, hP, mD_self hD0, va_S.rf, fun q h => Or.inr h⟩ hX hl
end MStartN
