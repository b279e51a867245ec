/-! ===== methods that throw ===== -/
/-- the strings that are thrown with: class, place, text -/
def mStr : List (String × Nat × String) := [(RX5, 26, "coins is not 0 to 1000000"), (RX5, 41, "there are 8 players"), (RX5, 80, "what is not 0 to 7"), (RX5, 83, "n is not 1 to 10000"), (RX5, 92, "the reserve does not hold so many"), (RX5, 94, "the player does not have the coins"), (RX5, 101, "the pocket does not hold so many"), (RX5, 103, "the bank does not have the coins"), (RX5, 105, "n is not 1 to 5000"), (RX5, 107, "rate is not 0 to 100"), (RX5, 109, "seconds is not 1 to 3600"), (RX5, 111, "the player has a bad loan or three open ones"), (RX5, 120, "there are 20 loans"), (RX5, 133, "n is not 1 to 1000000"), (RX5, 138, "the loan is closed"), (RX5, 156, "what is not 0 to 4"), (RX5, 158, "both players are the same"), (RX5, 160, "seconds is not 1 to 7200"), (RX5, 162, "increment or delay is not 0 to 30"), (RX5, 164, "stake is not 0 to 10000"), (RX5, 166, "one of both does not have the stake"), (RX5, 175, "there are 16 games"), (RX5, 194, "the game has ended"), (RX5, 202, "side is not 0 to 1"), (RX5, 204, "n is not 1 to 3600"), (RX5, 216, "n is not 1 to 20"), (RX5, 221, "it is the turn of this side"), (RX5, 230, "side is not -1 to 1"), (RX5, 254, "what is not 0 to 10"), (RX5, 256, "seconds is not 1 to 1200"), (RX5, 258, "the time would be greater than 20000"), (RX5, 277, "seconds is not 1 to 2400"), (RX5, 279, "what is not 0 to 3"), (RX5, 297, "there are not so many players"), (RX5, 299, "no such player"), (RX5, 301, "seconds is not 1 to 600"), (RX4, 85, "no such player"), (RX4, 90, "no such loan"), (RX4, 92, "no such game")]
/-- the words of a throw that don't stand in a method's own list -/
def mZw : List Cond := [.castable "java/lang/IndexOutOfBoundsException" "java/lang/IndexOutOfBoundsException", .castable "java/lang/IllegalArgumentException" "java/lang/IllegalArgumentException", .castable "java/lang/IllegalStateException" "java/lang/IllegalStateException", .declares (Bundle.initS "java/lang/RuntimeException"), .declares (Bundle.initS "java/lang/Exception"), .declares (Bundle.initS Bundle.tN)]
/-- what a throw reads: the two statics of Throwable, those words, the strings -/
def mZ : (Nat → Prop) → State → Prop := fun A U => (vx_Zq Bundle.tN "UNASSIGNED_STACK" Bundle.steD A U U.heap ∧ vx_Zq Bundle.tN "SUPPRESSED_SENTINEL" Bundle.listD A U U.heap) ∧ (∀ w ∈ mZw, va_Nw w U) ∧ ∀ q ∈ mStr, ∃ sa, vk_R q.1 q.2.1 q.2.2 sa U
theorem mZw_tab : ∀ w ∈ mZw, w.onTables = true := by decide +kernel
theorem mZ_ok : mXok mZ := fun A U g mk a h => ⟨⟨vx_Zq.moved (u := U) (U := U.calling g mk a) (Vm.Alike.refl U.vm) h.1.1, vx_Zq.moved (u := U) (U := U.calling g mk a) (Vm.Alike.refl U.vm) h.1.2⟩, fun w hw => va_Nw.same (u := U) (mZw_tab w hw) rfl (h.2.1 w hw), fun q hq => by obtain ⟨sa, h9⟩ := h.2.2 q hq; exact ⟨sa, vk_R.same (u := U) rfl h9⟩⟩
theorem mZw_warm {s U : State} (hW : s.WarmedH U.vm) (h : ∀ w ∈ mZw, va_Nw w s) : ∀ w ∈ mZw, va_Nw w U := by
  have k : ∀ w, w ∈ mZw → (∃ a b, w = Cond.castable a b) ∨ ∃ x, w = Cond.declares x := by
    intro w hw
    simp only [mZw, List.mem_cons, List.not_mem_nil, or_false] at hw
    rcases hw with rfl | rfl | rfl | rfl | rfl | rfl
    · exact Or.inl ⟨_, _, rfl⟩
    · exact Or.inl ⟨_, _, rfl⟩
    · exact Or.inl ⟨_, _, rfl⟩
    · exact Or.inr ⟨_, rfl⟩
    · exact Or.inr ⟨_, rfl⟩
    · exact Or.inr ⟨_, rfl⟩
  intro w hw
  have h1 := h w hw
  rcases k w hw with ⟨a, b, rfl⟩ | ⟨x, rfl⟩
  · exact va_Nw.warmC hW h1
  · exact va_Nw.warmD hW h1
theorem mZ_at {A B : Nat → Prop} {s U : State} {H : Heap} {locs : List Loc} (h : mZ A s) (hS : va_S A s.heap H locs) (hB : ∀ q, B q → A q) (hU : U.heap = H) (hW : s.WarmedH U.vm) : mZ B U := by
  subst hU
  have k : ∀ a : Nat, a < s.heap.size → ¬ A a → U.heap[a]? = s.heap[a]? := fun a h1 h2 => hS.2.1 a h1 h2
  exact ⟨⟨((h.1.1.kept k).narrow hB).moved hW.alike, ((h.1.2.kept k).narrow hB).moved hW.alike⟩, mZw_warm hW h.2.1, fun q hq => by obtain ⟨sa, h9⟩ := h.2.2 q hq; exact ⟨sa, vk_R.warm hW h9⟩⟩
/-- the cells and slots of an outcome: a throw makes an object of six -/
def mOc {α : Type} (o : α ⊕ String) : Nat := match o with | .inl _ => 0 | .inr _ => 1
def mOs {α : Type} (o : α ⊕ String) : Nat := match o with | .inl _ => 0 | .inr _ => 6
/-- an answer or a throw, as the outcome has it -/
def mOi (o : Int32 ⊕ String) : Option Value ⊕ String := match o with | .inl r => .inl (some (.int r)) | .inr e => .inr e
def mOr (ad : Nat → Nat) (b : Nat) (o : Nat ⊕ String) : Option Value ⊕ String := match o with | .inl r => .inl (some (.ref (ad (b + r)))) | .inr e => .inr e
def oCase {α β : Type} (o : α ⊕ String) (f : α → β) (g : String → β) : β := match o with | .inl r => f r | .inr e => g e
theorem oCase_l {α β : Type} {o : α ⊕ String} {f : α → β} {g : String → β} {x : β} {r : α} (ho : o = .inl r) (h : oCase o f g = x) : f r = x := by subst ho; exact h
theorem oCase_r {α β : Type} {o : α ⊕ String} {f : α → β} {g : String → β} {x : β} {e : String} (ho : o = .inr e) (h : oCase o f g = x) : g e = x := by subst ho; exact h
theorem ite_t {α : Type} {c : Prop} [Decidable c] {a b x : α} (hc : c) (h : (if c then a else b) = x) : a = x := by rw [if_pos hc] at h; exact h
theorem ite_f {α : Type} {c : Prop} [Decidable c] {a b x : α} (hc : ¬ c) (h : (if c then a else b) = x) : b = x := by rw [if_neg hc] at h; exact h
theorem gd_s {α : Type} {c : Prop} [Decidable c] {a : Option α} {x : α} (h : (if c then a else none) = some x) : c ∧ a = some x := by
  by_cases hc : c
  · rw [if_pos hc] at h; exact ⟨hc, h⟩
  · rw [if_neg hc] at h; cases h
theorem bd_s {α β : Type} {a : Option α} {f : α → Option β} {x : β} (h : a.bind f = some x) : ∃ q, a = some q ∧ f q = some x := by
  cases a with
  | none => cases h
  | some q => exact ⟨q, rfl, h⟩
section MThrow
variable {p : Program} {l : Launch} {e : Env} {R : Room} {s : State} {m : MethodId} {args : Array Value} {below : List Frame} {meth : Method} {c : Code} {H : Heap} {locs : List Loc} {cells slots mc ms : Nat} {Q : State → Prop}
variable {cc : ByteArray} {pc : Nat} {ls : Array Slot} {rest : List Value} {D : va_G} {y : Nat → ClassId} {A : Nat → Prop} {H0 : Heap} {n : Nat} {ad : Nat → Nat} {E : Nat → va_E}
theorem m_thrown {o : Option Value ⊕ String} {Ex : String} (ho : o = .inr Ex) (V : mV D y (mFree n ad s.heap.size) s s.heap H locs n ad E) : ∀ t : State, s.vm.Alike t.vm → H.size ≤ t.heap.size → (∀ q : Nat, q < H.size → t.heap[q]? = H[q]?) → mXo o D n ad E s.heap.size Ex s t := by
  intro t hal hsz hk
  obtain ⟨hK, hP, hD, hS, hA⟩ := V
  refine ⟨ho, hP.kept (fun k q hq => hk q.1 ((hP k q hq).lt)), Nat.le_trans hS.1 hsz, fun q h1 h2 => ?_⟩
  rw [hk q (Nat.lt_of_lt_of_le h1 hS.1)]
  exact hS.2.1 q h1 h2
theorem m_throw {o : Option Value ⊕ String} {own cls text : String} {ik is ic : Nat} (hl : l.stackTraces = false) (hx : p.tables.exec = Jvm.exec) (hb : c.code = cc) (hown : s.vm.findClass own = some m.cls) (hlk : meth.locks = false) (hno : ∀ x ∈ c.exceptionTable.toList, False) (Z : mZ (mFree n ad s.heap.size) s) (V : mV D y (mFree n ad s.heap.size) s s.heap H locs n ad E)
    (hcls : Bundle.fit cls = true) (hk : (Cond.classLink own ik cls).before args s = true) (hini : (Cond.initialized cls).before args s = true) (hstr : (own, is, text) ∈ mStr) (hg : ∀ w ∈ (vx_atS own ic cls ["java/lang/RuntimeException", "java/lang/Exception"]).filter goodWord, w.before args s = true) (hB : ∀ w ∈ (vx_atS own ic cls ["java/lang/RuntimeException", "java/lang/Exception"]).filter (fun w => !goodWord w), w ∈ mZw)
    (hgood : ∀ w ∈ Cond.classLink own ik cls :: Cond.initialized cls :: vx_atS own ic cls ["java/lang/RuntimeException", "java/lang/Exception"], vx_ot w = true) (hsize : ls.size = c.maxLocals)
    (d0 : decode cc pc = .ok (.new ik, 3)) (d3 : decode cc (pc + 3) = .ok (.dup, 1)) (d4 : decode cc (pc + 4) = .ok (.ldc is, 2)) (d6 : decode cc (pc + 6) = .ok (.invokespecial ic, 3)) (d9 : decode cc (pc + 9) = .ok (.athrow, 1))
    (hRf : 5 < R.frames) (hRl : (rest.map fun v => v.category).sum + 82 ≤ R.locals) (hRc : cells + 1 ≤ R.cells) (hRs : slots + 6 ≤ R.slots) (hc : cells + 1 ≤ mc) (hs : slots + 6 ≤ ms) (ho : o = .inr cls) :
    W p l e R s m args below meth c H locs cells slots (vx_MQ below (mQo o D n ad E s.heap.size) (mXo o D n ad E s.heap.size) args s mc ms (mFree n ad s.heap.size)) (F0 m pc ls rest) := by
  obtain ⟨sa, hsa⟩ := Z.2.2 _ hstr
  exact vx_throwS (names := ["java/lang/RuntimeException", "java/lang/Exception"]) hx hb hl hown hcls (by decide +kernel) hk hini hsa (vx_hat hg hB (fun w hw => va_Nw.use (mZw_tab w hw) (Z.2.1 w hw))) hgood Z.1.1 Z.1.2 V.2.2.2.1 hsize d0 d3 d4 d6 d9 (fun x hx => (hno x hx).elim) hRf hRl hRc hRs hlk (m_thrown ho V) V.2.2.2.1.2.2 hc hs
theorem m_throwW {o : Option Value ⊕ String} {own cls text : String} {ik is ic : Nat} (hl : l.stackTraces = false) (hx : p.tables.exec = Jvm.exec) (hb : c.code = cc) (hown : s.vm.findClass own = some m.cls) (hlk : meth.locks = false) (hno : ∀ x ∈ c.exceptionTable.toList, False) (Z : mZ (mFree n ad s.heap.size) s) (V : mV D y (mFree n ad s.heap.size) s s.heap H locs n ad E)
    (hcls : Bundle.fit cls = true) (hk : (Cond.classLink own ik cls).before args s = true) (hini : (Cond.initialized cls).before args s = true) (hstr : (own, is, text) ∈ mStr) (hg : ∀ w ∈ (vx_atS own ic cls ["java/lang/RuntimeException", "java/lang/Exception"]).filter goodWord, w.before args s = true) (hB : ∀ w ∈ (vx_atS own ic cls ["java/lang/RuntimeException", "java/lang/Exception"]).filter (fun w => !goodWord w), w ∈ mZw)
    (hgood : ∀ w ∈ Cond.classLink own ik cls :: Cond.initialized cls :: vx_atS own ic cls ["java/lang/RuntimeException", "java/lang/Exception"], vx_ot w = true) (hsize : ls.size = c.maxLocals)
    (d0 : decode cc pc = .ok (.new ik, 3)) (d3 : decode cc (pc + 3) = .ok (.dup, 1)) (d4 : decode cc (pc + 4) = .ok (.ldc_w is, 3)) (d7 : decode cc (pc + 7) = .ok (.invokespecial ic, 3)) (d10 : decode cc (pc + 10) = .ok (.athrow, 1))
    (hRf : 5 < R.frames) (hRl : (rest.map fun v => v.category).sum + 82 ≤ R.locals) (hRc : cells + 1 ≤ R.cells) (hRs : slots + 6 ≤ R.slots) (hc : cells + 1 ≤ mc) (hs : slots + 6 ≤ ms) (ho : o = .inr cls) :
    W p l e R s m args below meth c H locs cells slots (vx_MQ below (mQo o D n ad E s.heap.size) (mXo o D n ad E s.heap.size) args s mc ms (mFree n ad s.heap.size)) (F0 m pc ls rest) := by
  obtain ⟨sa, hsa⟩ := Z.2.2 _ hstr
  exact vx_throwSW (names := ["java/lang/RuntimeException", "java/lang/Exception"]) hx hb hl hown hcls (by decide +kernel) hk hini hsa (vx_hat hg hB (fun w hw => va_Nw.use (mZw_tab w hw) (Z.2.1 w hw))) hgood Z.1.1 Z.1.2 V.2.2.2.1 hsize d0 d3 d4 d7 d10 (fun x hx => (hno x hx).elim) hRf hRl hRc hRs hlk (m_thrown ho V) V.2.2.2.1.2.2 hc hs
/-- a throw that comes out of a callee goes on to the caller -/
theorem m_out {o : Option Value ⊕ String} {Ex : String} {ce : Cell} {q : Addr} (hlk : meth.locks = false) (hno : ∀ x ∈ c.exceptionTable.toList, False) (V : mV D y (mFree n ad s.heap.size) s s.heap H locs n ad E) (ho : o = .inr Ex) (hcell : H[q]? = some ce) (hv : ce.vm = .none) (hcl : s.vm.findClass Ex = some ce.cls) (hc : cells ≤ mc) (hs : slots ≤ ms) :
    vx_W p l e R s m args below meth c H locs cells slots (vx_MQ below (mQo o D n ad E s.heap.size) (mXo o D n ad E s.heap.size) args s mc ms (mFree n ad s.heap.size)) (F0 m pc ls rest) q :=
  vx_out (fun x hx => (hno x hx).elim) hlk hcell hv hcl (fun t ht hal => m_thrown ho V t hal (by rw [ht]; exact Nat.le_refl _) (fun q _ => by rw [ht])) V.2.2.2.1.2.2 hc hs
theorem m_iretX {v : Int32} {o : Option Value ⊕ String} (hx : p.tables.exec = Jvm.exec) (hb : c.code = cc) (hr : meth.sig.returnType = some .int) (hlk : meth.locks = false) (V : mV D y (mFree n ad s.heap.size) s s.heap H locs n ad E) (hc : cells ≤ mc) (hs : slots ≤ ms) (ho : o = .inl (some (.int v))) (hdg : decode cc pc = .ok (.ireturn, 1)) :
    W p l e R s m args below meth c H locs cells slots (vx_MQ below (mQo o D n ad E s.heap.size) (mXo o D n ad E s.heap.size) args s mc ms (mFree n ad s.heap.size)) (F0 m pc ls [.int v]) :=
  W.widen hc hs (vx_ret (W.iret hx hb hr (fun t ht hW => ⟨_, ho, m_end V t ht hW⟩) V.2.2.2.1.2.2 hdg hlk))
theorem m_aretX {a : Nat} {C : String} {o : Option Value ⊕ String} (hx : p.tables.exec = Jvm.exec) (hb : c.code = cc) (hr : meth.sig.returnType = some (.object C)) (hlk : meth.locks = false) (V : mV D y (mFree n ad s.heap.size) s s.heap H locs n ad E) (hc : cells ≤ mc) (hs : slots ≤ ms) (ho : o = .inl (some (.ref a))) (hdg : decode cc pc = .ok (.areturn, 1)) :
    W p l e R s m args below meth c H locs cells slots (vx_MQ below (mQo o D n ad E s.heap.size) (mXo o D n ad E s.heap.size) args s mc ms (mFree n ad s.heap.size)) (F0 m pc ls [.ref a]) :=
  W.widen hc hs (vx_ret (W.aret hx hb hr (Or.inl ⟨C, rfl⟩) (Or.inr ⟨a, rfl⟩) (fun t ht hW => ⟨_, ho, m_end V t ht hW⟩) V.2.2.2.1.2.2 hdg hlk))
/-- a call of a method that throws here -/
theorem m_callVx {mc9 ms9 : Nat} {Ts : List Cond} {own C : String} {yn : MethodName} {bytes : ByteArray} {maxL nL index nA n' o : Nat} {ret : Option FieldType} {ws : List Cond} {rm : Room} {ad' : Nat → Nat} {X : (Nat → Prop) → State → Prop} {E1 E1' E2 : Nat → va_E} {Ex : String} {b : Nat} {As st0 : List Value} (S : CallFix p m c cc nL s args Ts own) (hM : mCX l yn ws rm D y n' ad' X E1 (.ref (ad b) :: As) (.inr Ex) E1' mc9 ms9) (cw : CallW R s args own C index yn bytes maxL ret ws rm mc9 ms9 nA) (hX0 : mXok X) (V : mV D y A s H0 H locs n ad E) (hs : ∀ c, c < n' → o + c < n ∧ ad' c = ad (o + c)) (hE : ∀ c, c < n' → E1 c = E (o + c)) (h2 : ∀ c, c < n → mGl E o n' E1' c = E2 c)
    {ci : Nat} {fs : List Value} {T : u_T} {N : Nat} (hb0 : b < n) (he : E b = .inr (ci, fs)) (hcl : vwCl[ci]? = some (C, T, N)) (hX : ∀ U : State, U.heap = H → s.WarmedH U.vm → X (mFree n' ad' H.size) U) (hn : As.length = nA) (hl : ls.size = nL) (hst0 : st0 = As.reverse ++ .ref (ad b) :: rest) (hW : (rest.map fun v => v.category).sum ≤ 8) (hf : cells + mc9 ≤ R.cells ∧ slots + ms9 ≤ R.slots)
    (hdg : decode cc pc = .ok (.invokevirtual index, 3)) (kx : ∀ (ce : Cell) (q : Addr) (H1 : Heap) (locs1 : List Loc), mV D y A s H0 H1 locs1 n ad E2 → H1[q]? = some ce → ce.vm = .none → s.vm.findClass Ex = some ce.cls → vx_W p l e R s m args below meth c H1 locs1 (cells + mc9) (slots + ms9) Q (F0 m pc ls rest) q) : W p l e R s m args below meth c H locs cells slots Q (F0 m pc ls st0) := by
  have hr := vx_runV (e := e) (below := below) (meth := meth) (R := R) (locs := locs) (cells := cells) (slots := slots) (g := F0 m pc ls st0) (rest := rest) S (hM H.size) cw ⟨mPre_blind hX0, va_recv V.1 V.2.1 hcl ((mWl_get hb0).trans (by rw [he])), m_pre V hs hE hX⟩ rfl hn hl hst0 (lv_room hW) hdg hf
  obtain ⟨hK, hP, hD, hS, hA⟩ := V
  intro T9 hT X9
  rcases hr T9 hT X9 with ⟨v, st₀, t, T', L, h0, X', hL, e1, e2, hq, st⟩ | ⟨q, st₀, t, T', L, E9, ce, h0, X', hL, e1, e2, hx9, hce, hcv, hcl9, st⟩
  · obtain ⟨r, hr9, -⟩ := hq
    cases hr9
  · obtain ⟨hEx, hP1, hz, hk⟩ := hx9
    cases hEx
    rw [h0] at hz hk
    have hF := mFree_in hD hS hA hs
    have hk1 : ∀ q : Nat, q < H.size → ¬ mFree n' ad' H.size q → T'.heap[q]? = H[q]? := fun q h1 h3 => by rw [e1]; exact hk q h1 h3
    rw [← e1] at hP1 hz hce
    have hP2 := mP_glue hP hD hs hP1 hk1 h2
    obtain ⟨t2, a1, b1⟩ := kx ce q T'.heap (locs ++ L) ⟨hK, hP2, mD_E _ hD, ⟨Nat.le_trans hS.1 hz, fun q h1 h3 => by rw [hk1 q (Nat.lt_of_lt_of_le h1 hS.1) (fun z => h3 (hF q z))]; exact hS.2.1 q h1 h3, fun q hq => by
        rcases List.mem_append.mp hq with h | h
        · exact hS.2.2 q h
        · exact hF _ (hL q h)⟩, hA⟩ hce hcv hcl9 T' rfl X'
    exact ⟨t2, st.trans a1, b1⟩
end MThrow
section MStartX
variable {l : Launch} {yn : MethodName} {ws ws' : List Cond} {rm : Room} {D : va_G} {y : Nat → ClassId} {n : Nat} {ad : Nat → Nat} {X : (Nat → Prop) → State → Prop} {E E' : Nat → va_E} {vs : List Value} {o : Option Value ⊕ String} {mc ms : Nat} {cc : ByteArray} {maxL : Nat} {ret : Option FieldType}
theorem m_startX (hy : plainName yn.cls = true) (hw : ws = Cond.code yn cc maxL ret :: ws') (hlen : (lg_sl vs).length ≤ maxL)
    (body : ∀ (p : Program) (e : Env) (s : State) (m : MethodId) (args : Array Value) (below : List Frame) (meth : Method) (c : Code) (ls : Array Slot), mBd p s m args meth c cc maxL ws yn.cls ret → (∀ x ∈ c.exceptionTable.toList, False) → mV D y (mFree n ad s.heap.size) s s.heap s.heap [] n ad E → X (mFree n ad s.heap.size) s → lv_has ls maxL (lv_args 0 vs) →
      W p l e rm s m args below meth c s.heap [] 0 0 (vx_MQ below (mQo o D n ad E' s.heap.size) (mXo o D n ad E' s.heap.size) args s mc ms (mFree n ad s.heap.size)) (F0 m 0 ls [])) : mCX l yn ws rm D y n ad X E vs o E' mc ms := by
  intro sz
  refine vx_ofW (cc := cc) (maxL := maxL) (ret := ret) hy hw ?_
  intro p e s m args below meth c s₁ B hml hno hv
  obtain ⟨rfl, hsz, hP, hK, hD0, hX⟩ := hv
  have hx := B.exec
  have hb := B.bytes
  have hr := B.returns
  have hts := atoms_spec (ws := ws) B.pre
  have hown : s.vm.findClass yn.cls = some m.cls := findClass_of_methodNamed B.named
  have hlocks := B.notSynchronized
  subst hsz
  have hl := lv_entry vs (n := maxL) hlen
  rw [lg_entry_eq]
  exact body p e s m _ below meth c _ ⟨hx, hb, hml, hown, hts, hr, hlocks⟩ hno ⟨hK, hP, mD_self hD0, va_S.rf, fun q h => Or.inr h⟩ hX hl
end MStartX
