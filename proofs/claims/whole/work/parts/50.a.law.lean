/-! ===== the law's own walk, laid by program (wip/whole/mklaw.py) ===== -/
section LRows
variable {p : Program} {l : Launch} {e : Env} {R : Room} {s : State} {m : MethodId} {args : Array Value} {below : List Frame} {meth : Method} {c : Code} {H : Heap} {locs : List Loc} {cells slots : Nat} {Q : State → Prop}
variable {cc : ByteArray} {pc : Nat} {ls : Array Slot} {rest : List Value} {D : va_G} {y : Nat → ClassId} {ad : Nat → Nat}
variable {Ts : List Cond} {own C : String} {yn : MethodName} {bytes : ByteArray} {maxL nL index nA mc ms : Nat} {ret : Option FieldType} {ws : List Cond} {rm : Room} {r : Option Value} {b : Nat} {As st0 st1 : List Value}
theorem m_newJ {A : Nat → Prop} {H0 : Heap} (hx : p.tables.exec = Jvm.exec) (hb : c.code = cc) (harr : (Cond.arrayClass .long).before args s = true) {n : Nat} {E : Nat → va_E} (V : mV D y A s H0 H locs n ad E) {z : Int32} {Z : Nat} (hn : ¬ z < 0) (hN : z.toNatClampNeg = Z) (hby : Z * 8 ≤ 536870912) (hce : cells + 1 ≤ R.cells) (hsl : slots + Z ≤ R.slots) (hdg : decode cc pc = .ok (.newarray .long, 2))
    (kk : ∀ (q : Nat) (H1 : Heap), mV D y A s H0 H1 locs (n + 1) (va_up ad n q) (va_up E n (.inl (y 4, (Z, .inr (.inl (fun _ => 0)))))) → W p l e R s m args below meth c H1 locs (cells + 1) (slots + Z) Q (F0 m (pc + 2) ls (.ref q :: rest))) : W p l e R s m args below meth c H locs cells slots Q (F0 m pc ls (.int z :: rest)) := by
  obtain ⟨hK, hP, hD, hS, hA⟩ := V
  refine va_newa (atype := .long) (ty := .long) (a0 := (Z, .inr (.inl (fun _ => 0)))) hx hb harr rfl hK hP hD hS hA (fun cA => rfl) hn hN hby hce hsl hdg (fun q cA H1 hK1 hP1 hD1 hS1 => ?_)
  have h1 : va_RA s cA .long := (hK1.2 5 (cA, .long) rfl).2
  have h2 : va_RA s (y 4) .long := (hK.2 4 (y 4, .long) rfl).2
  have h3 : cA = y 4 := Option.some.inj (h1.symm.trans h2)
  subst h3
  rw [mWl_push] at hP1 hD1
  exact kk q H1 ⟨hK, hP1, hD1, hS1, hA⟩
theorem kWBa {A : Nat → Prop} {th : Int32} {ρ α σ τ σ' τ' : mSt} {o : Nat → Int64} (S : CallFix p m c cc nL s args Ts own) (Z : mZ A s) (V : mV D y A s s.heap H locs 205 ad (mW y ad th ρ α σ τ o)) (hM : mC l yn ws rm D y 161 (fun k => ad (43 + k)) mZ (mB y (fun k => ad (43 + k)) σ τ) (.ref (ad (43 + b)) :: As) r (mB y (fun k => ad (43 + k)) σ' τ') mc ms) (cw : CallW R s args own C index yn bytes maxL ret ws rm mc ms nA) {ci : Nat} {fs : List Value} {T : u_T} {N : Nat} (hb0 : 43 + b < 205) (he : (mW y ad th ρ α σ τ o) (43 + b) = .inr (ci, fs)) (hcl : vwCl[ci]? = some (C, T, N)) (hn : As.length = nA) (hl : ls.size = nL) (hst0 : st0 = As.reverse ++ .ref (ad (43 + b)) :: rest) (hW : (rest.map fun v => v.category).sum ≤ 8) (hf : cells + mc ≤ R.cells ∧ slots + ms ≤ R.slots) (hst : r.toList ++ rest = st1) (hdg : decode cc pc = .ok (.invokevirtual index, 3)) (kk : ∀ (H1 : Heap) (locs1 : List Loc), mV D y A s s.heap H1 locs1 205 ad (mW y ad th ρ α σ' τ' o) → W p l e R s m args below meth c H1 locs1 (cells + mc) (slots + ms) Q (F0 m (pc + 3) ls st1)) : W p l e R s m args below meth c H locs cells slots Q (F0 m pc ls st0) :=
  m_callV (o := 43) (b := 43 + b) S hM cw mZ_ok V (fun c hc => ⟨by omega, rfl⟩) (fun c hc => by rw [mW_1, mHw_0 hc]) mGl_Wb hb0 he hcl (fun U hU hW => mZ_at Z V.2.2.2.1 (mFree_in (o := 43) V.2.2.1 V.2.2.2.1 V.2.2.2.2 (fun c hc => ⟨by omega, rfl⟩)) hU hW) hn hl hst0 hW hf hst hdg kk
theorem kWMa {A : Nat → Prop} {th th' : Int32} {ρ α σ τ ρ' α' : mSt} {o : Nat → Int64} (S : CallFix p m c cc nL s args Ts own) (Z : mN A s) (V : mV D y A s s.heap H locs 205 ad (mW y ad th ρ α σ τ o)) (hM : mC l yn ws rm D y 43 ad mN (mM y ad th ρ α) (.ref (ad b) :: As) r (mM y ad th' ρ' α') mc ms) (cw : CallW R s args own C index yn bytes maxL ret ws rm mc ms nA) {ci : Nat} {fs : List Value} {T : u_T} {N : Nat} (hb0 : b < 205) (he : (mW y ad th ρ α σ τ o) (b) = .inr (ci, fs)) (hcl : vwCl[ci]? = some (C, T, N)) (hn : As.length = nA) (hl : ls.size = nL) (hst0 : st0 = As.reverse ++ .ref (ad b) :: rest) (hW : (rest.map fun v => v.category).sum ≤ 8) (hf : cells + mc ≤ R.cells ∧ slots + ms ≤ R.slots) (hst : r.toList ++ rest = st1) (hdg : decode cc pc = .ok (.invokevirtual index, 3)) (kk : ∀ (H1 : Heap) (locs1 : List Loc), mV D y A s s.heap H1 locs1 205 ad (mW y ad th' ρ' α' σ τ o) → W p l e R s m args below meth c H1 locs1 (cells + mc) (slots + ms) Q (F0 m (pc + 3) ls st1)) : W p l e R s m args below meth c H locs cells slots Q (F0 m pc ls st0) :=
  m_callV (o := 0) (b := b) S hM cw mN_ok V (fun c hc => ⟨by omega, by rw [Nat.zero_add]⟩) (fun c hc => by rw [Nat.zero_add, mW_0 hc]) mGl_Wm hb0 he hcl (fun U hU hW => mN_at Z hW) hn hl hst0 hW hf hst hdg kk
theorem l_lcmp (hexec : p.tables.exec = Jvm.exec) (hb : c.code = cc) {x z : Int64} (hxz : x = z) (hdg : decode cc pc = .ok (.lcmp, 1)) (k : W p l e R s m args below meth c H locs cells slots Q (F0 m (pc + 1) ls (.int 0 :: rest))) : W p l e R s m args below meth c H locs cells slots Q (F0 m pc ls (.long z :: .long x :: rest)) := by
  subst hxz
  intro T hT X
  obtain ⟨t, a, b⟩ := k T hT X
  refine ⟨t, ?_, b⟩
  have hn : ¬ x < x := fun h => by rw [Int64.lt_iff_toInt_lt] at h; omega
  jvm_step X.here [X.here.top, hexec, hb, hdg, hn]
  exact a
end LRows
/-- what the law's body knows of the start -/
def lEnv (p : Program) (s : State) (m : MethodId) (meth : Method) (c : Code) (b L : Nat) (xs : Nat → Int32) : Prop :=
  p.tables.exec = Jvm.exec ∧ c.code = cL_law ∧ c.maxLocals = 9 ∧ s.vm.findClass RL = some m.cls ∧ (∀ w ∈ wsL_law, w.before #[Value.ref b] s = true) ∧ va_X b L xs s s.heap ∧ b < s.heap.size ∧ mZ2 (fun q => s.heap.size ≤ q) s ∧ mN (fun q => s.heap.size ≤ q) s ∧ L ≤ 3584
abbrev lW : Type := Int32 × mSt × mSt × mSt × mSt × (Nat → Int64)
abbrev lW.th (w : lW) : Int32 := w.1
abbrev lW.ρ (w : lW) : mSt := w.2.1
abbrev lW.α (w : lW) : mSt := w.2.2.1
abbrev lW.σ (w : lW) : mSt := w.2.2.2.1
abbrev lW.τ (w : lW) : mSt := w.2.2.2.2.1
abbrev lW.o (w : lW) : Nat → Int64 := w.2.2.2.2.2
abbrev lV (D : va_G) (y : Nat → ClassId) (s : State) (H : Heap) (locs : List Loc) (ad : Nat → Nat) (w : lW) : Prop := mV D y (fun q => s.heap.size ≤ q) s s.heap H locs 205 ad (mW y ad w.th w.ρ w.α w.σ w.τ w.o)
section LScr
variable {p : Program} {l : Launch} {e : Env} {R : Room} {s : State} {m : MethodId} {args : Array Value} {below : List Frame} {meth : Method} {c : Code} {H : Heap} {locs : List Loc} {cells slots : Nat} {Q : State → Prop}
variable {pc : Nat} {ls : Array Slot} {rest : List Value} {D : va_G} {y : Nat → ClassId} {ad : Nat → Nat} {b L : Nat} {xs : Nat → Int32}
theorem l_sld {n : Nat} {E : Nat → va_E} (C0 : lEnv p s m meth c b L xs) (V : mV D y (fun q => s.heap.size ≤ q) s s.heap H locs n ad E) {k j : Nat} {a : Nat → Int32} (ha : ∀ j, a j = xs (7 * k + j)) (hk : 7 * k + 7 ≤ L) {v : Int32} (hv : v = nI (7 * k + j)) (hj : j < 7) (hdg : decode cL_law pc = .ok (.iaload, 1))
    (kk : W p l e R s m args below meth c H locs cells slots Q (F0 m (pc + 1) ls (.int (a j) :: rest))) : W p l e R s m args below meth c H locs cells slots Q (F0 m pc ls (.int v :: .ref b :: rest)) := by
  obtain ⟨hx, hb, -, -, -, hX, hbl, -, -, hL⟩ := C0
  subst hv
  refine va_sld hx hb hX hbl (Nat.not_le.mpr hbl) V.2.2.2.1 (vp_in_nI (show 7 * k + j < L by omega) (by omega)) hdg ?_
  rw [nI_clamp (by omega), ← ha]
  exact kk
end LScr
def s_addPlayer (N : Nat) (a : Nat → Int32) (w : lW) : Option lW := (f_L_addPlayer N w.σ w.τ w.o (a 1)).bind fun q1 => (f_X7_addPlayer N w.th w.ρ w.α (a 1)).bind fun q2 => (f_X7_thrown N q2.2.1 q2.2.2.1 q2.2.2.2).bind fun q3 => if q3.1 = q1.1 then (if q1.1 = 0 then (if q1.2.2.2 (0 : Int32).toNatClampNeg = q2.1.toInt64 then some ⟨q3.2.1, q3.2.2.1, q3.2.2.2, q1.2.1, q1.2.2.1, q1.2.2.2⟩ else none) else some ⟨q3.2.1, q3.2.2.1, q3.2.2.2, q1.2.1, q1.2.2.1, q1.2.2.2⟩) else none
set_option maxHeartbeats 4000000 in
set_option maxRecDepth 100000 in
theorem l_addPlayer {p : Program} {l : Launch} {e : Env} {s : State} {m : MethodId} {below : List Frame} {meth : Method} {c : Code} {H : Heap} {locs : List Loc} {cells slots : Nat} {Q : State → Prop} {ls : Array Slot} {D : va_G} {y : Nat → ClassId} {ad : Nat → Nat} {b L : Nat} {xs : Nat → Int32} {N k : Nat} {a : Nat → Int32} {w w' : lW} (hstk : l.stackTraces = false) (C0 : lEnv p s m meth c b L xs) (ha : ∀ j, a j = xs (7 * k + j)) (hk : 7 * k + 7 ≤ L) (hce : cells + 140 ≤ 601024) (hsl : slots + 800 ≤ 7293034) (hf : s_addPlayer N a w = some w') (kk : ∀ (H : Heap) (locs : List Loc) (ls : Array Slot) (c1 s1 : Nat), c1 ≤ cells + 140 → s1 ≤ slots + 800 → lV D y s H locs ad w' → lv_has ls 9 [(4, .int (nI (7 * k))), (0, .ref b), (1, .ref (ad 203)), (2, .ref (ad 42)), (3, .ref (ad 204))] → W p l e room_1 s m #[Value.ref b] below meth c H locs c1 s1 Q (F0 m 1453 ls [])) (V : lV D y s H locs ad w) (hl : lv_has ls 9 [(4, .int (nI (7 * k))), (0, .ref b), (1, .ref (ad 203)), (2, .ref (ad 42)), (3, .ref (ad 204))]) : W p l e room_1 s m #[Value.ref b] below meth c H locs cells slots Q (F0 m 136 ls []) := by
  obtain ⟨hx, hb, hml, hown, hts, hX, hbl, Z, ZN, hL⟩ := id C0
  rw [s_addPlayer] at hf
  obtain ⟨q1, hq1, hf⟩ := bd_s hf
  obtain ⟨q2, hq2, hf⟩ := bd_s hf
  obtain ⟨q3, hq3, hf⟩ := bd_s hf
  obtain ⟨he3, hf⟩ := gd_s hf
  refine lv_aload_n hx hb dL_law_136 rfl (lv_at hl 2 rfl) ?_
  refine lv_aload_n hx hb dL_law_137 rfl (lv_at hl 1 rfl) ?_
  refine lv_iload hx hb dL_law_138 (lv_at hl 0 rfl) ?_
  refine lv_iconst (v := 1) hx hb dL_law_140 (by decide) ?_
  refine lv_iadd hx hb dL_law_141 ?_
  refine l_sld C0 V (j := 1) ha hk (nI_add (7 * k) 1) (by decide) dL_law_142 ?_
  refine lv_aload_n hx hb dL_law_143 rfl (lv_at hl 4 rfl) ?_
  refine kWH (As := [.ref (ad 203), .int (a 1), .ref (ad 204)]) (rest := []) ⟨hx, hb, hml, hown, hts⟩ Z rfl V (c_L_addPlayer (l := l) (D := D) (y := y) (ad := fun k => ad (43 + k)) hstk hq1) (vx_cwSW 3 hts gL_law_L_addPlayer rfl rfl rfl (by decide +kernel) ⟨Nat.le_of_ble_eq_true rfl, Nat.le_of_ble_eq_true rfl⟩) rfl hl.1 rfl (Nat.le_of_ble_eq_true rfl) ⟨show cells + 1 ≤ 601024 by omega, show slots + 6 ≤ 7293034 by omega⟩ rfl dL_law_144 (fun H locs V => ?_)
  refine lv_istore (lv' := [(5, .int q1.1), (4, .int (nI (7 * k))), (0, .ref b), (1, .ref (ad 203)), (2, .ref (ad 42)), (3, .ref (ad 204))]) hx hb dL_law_147 hl (by decide) rfl (fun ls hl => ?_)
  refine lv_aload_n hx hb dL_law_149 rfl (lv_at hl 4 rfl) ?_
  refine lv_aload_n hx hb dL_law_150 rfl (lv_at hl 2 rfl) ?_
  refine lv_iload hx hb dL_law_151 (lv_at hl 1 rfl) ?_
  refine lv_iconst (v := 1) hx hb dL_law_153 (by decide) ?_
  refine lv_iadd hx hb dL_law_154 ?_
  refine l_sld C0 V (j := 1) ha hk (nI_add (7 * k) 1) (by decide) dL_law_155 ?_
  refine kWMa (As := [.int (a 1)]) (rest := []) ⟨hx, hb, hml, hown, hts⟩ ZN V (c_X7_addPlayer (l := l) (D := D) (y := y) (ad := ad) hq2) (cwV 1 hts gL_law_X7_addPlayer rfl rfl rfl (by decide +kernel) ⟨Nat.le_of_ble_eq_true rfl, Nat.le_of_ble_eq_true rfl⟩) (by omega) ((mW_0 (by omega)).trans (mM_m y ad _ _ _)) rfl rfl hl.1 rfl (Nat.le_of_ble_eq_true rfl) ⟨show cells + 1 + 0 ≤ 601024 by omega, show slots + 6 + 0 ≤ 7293034 by omega⟩ rfl dL_law_156 (fun H locs V => ?_)
  refine lv_istore (lv' := [(6, .int q2.1), (5, .int q1.1), (4, .int (nI (7 * k))), (0, .ref b), (1, .ref (ad 203)), (2, .ref (ad 42)), (3, .ref (ad 204))]) hx hb dL_law_159 hl (by decide) rfl (fun ls hl => ?_)
  refine lv_aload_n hx hb dL_law_161 rfl (lv_at hl 5 rfl) ?_
  refine kWMa (As := []) (rest := []) ⟨hx, hb, hml, hown, hts⟩ ZN V (c_X7_thrown (l := l) (D := D) (y := y) (ad := ad) hq3) (cwV 0 hts gL_law_X7_thrown rfl rfl rfl (by decide +kernel) ⟨Nat.le_of_ble_eq_true rfl, Nat.le_of_ble_eq_true rfl⟩) (by omega) ((mW_0 (by omega)).trans (mM_m y ad _ _ _)) rfl rfl hl.1 rfl (Nat.le_of_ble_eq_true rfl) ⟨show cells + 1 + 0 + 0 ≤ 601024 by omega, show slots + 6 + 0 + 0 ≤ 7293034 by omega⟩ rfl dL_law_162 (fun H locs V => ?_)
  refine lv_iload hx hb dL_law_165 (lv_at hl 1 rfl) ?_
  refine lv_icmp_eq (tgt := 172) hx hb dL_law_167 (by decide) (fun _ => ?_) (fun h => absurd he3 h)
  refine lv_iload hx hb dL_law_172 (lv_at hl 1 rfl) ?_
  refine lv_if_ne (tgt := 189) hx hb dL_law_174 (by decide) (fun h0 => ?_) (fun h0 => ?_)
  · replace hf := ite_f h0 hf
    obtain rfl := Option.some.inj hf
    refine lv_goto (tgt := 1453) hx hb dL_law_189 (by decide) ?_
    exact kk _ _ _ _ _ (by omega) (by omega) V (lv_sub hl [2, 3, 4, 5, 6] rfl)
  · replace hf := ite_t h0 hf
    obtain ⟨hv, hf⟩ := gd_s hf
    obtain rfl := Option.some.inj hf
    refine lv_aload_n hx hb dL_law_177 rfl (lv_at hl 6 rfl) ?_
    refine lv_iconst (v := 0) hx hb dL_law_178 (by decide) ?_
    refine oW_ld hx hb V (by decide +kernel) dL_law_179 ?_
    refine lv_iload hx hb dL_law_180 (lv_at hl 0 rfl) ?_
    refine lv_i2l hx hb dL_law_182 rfl ?_
    refine l_lcmp hx hb hv dL_law_183 ?_
    refine lv_if_eq (tgt := 189) hx hb dL_law_184 (by decide) (fun _ => ?_) (fun h => absurd rfl h)
    refine lv_goto (tgt := 1453) hx hb dL_law_189 (by decide) ?_
    exact kk _ _ _ _ _ (by omega) (by omega) V (lv_sub hl [2, 3, 4, 5, 6] rfl)
def s_player (N : Nat) (a : Nat → Int32) (w : lW) : Option lW := (f_L_player N w.σ w.τ w.o (a 1) (a 2)).bind fun q1 => (f_X7_player N w.th w.ρ w.α (a 1) (a 2)).bind fun q2 => (f_X7_thrown N q2.2.1 q2.2.2.1 q2.2.2.2).bind fun q3 => if q3.1 = q1.1 then (if q1.1 = 0 then (if q1.2.2.2 (0 : Int32).toNatClampNeg = q2.1.toInt64 then some ⟨q3.2.1, q3.2.2.1, q3.2.2.2, q1.2.1, q1.2.2.1, q1.2.2.2⟩ else none) else some ⟨q3.2.1, q3.2.2.1, q3.2.2.2, q1.2.1, q1.2.2.1, q1.2.2.2⟩) else none
set_option maxHeartbeats 4000000 in
set_option maxRecDepth 100000 in
theorem l_player {p : Program} {l : Launch} {e : Env} {s : State} {m : MethodId} {below : List Frame} {meth : Method} {c : Code} {H : Heap} {locs : List Loc} {cells slots : Nat} {Q : State → Prop} {ls : Array Slot} {D : va_G} {y : Nat → ClassId} {ad : Nat → Nat} {b L : Nat} {xs : Nat → Int32} {N k : Nat} {a : Nat → Int32} {w w' : lW} (hstk : l.stackTraces = false) (C0 : lEnv p s m meth c b L xs) (ha : ∀ j, a j = xs (7 * k + j)) (hk : 7 * k + 7 ≤ L) (hce : cells + 140 ≤ 601024) (hsl : slots + 800 ≤ 7293034) (hf : s_player N a w = some w') (kk : ∀ (H : Heap) (locs : List Loc) (ls : Array Slot) (c1 s1 : Nat), c1 ≤ cells + 140 → s1 ≤ slots + 800 → lV D y s H locs ad w' → lv_has ls 9 [(4, .int (nI (7 * k))), (0, .ref b), (1, .ref (ad 203)), (2, .ref (ad 42)), (3, .ref (ad 204))] → W p l e room_1 s m #[Value.ref b] below meth c H locs c1 s1 Q (F0 m 1453 ls [])) (V : lV D y s H locs ad w) (hl : lv_has ls 9 [(4, .int (nI (7 * k))), (0, .ref b), (1, .ref (ad 203)), (2, .ref (ad 42)), (3, .ref (ad 204))]) : W p l e room_1 s m #[Value.ref b] below meth c H locs cells slots Q (F0 m 192 ls []) := by
  obtain ⟨hx, hb, hml, hown, hts, hX, hbl, Z, ZN, hL⟩ := id C0
  rw [s_player] at hf
  obtain ⟨q1, hq1, hf⟩ := bd_s hf
  obtain ⟨q2, hq2, hf⟩ := bd_s hf
  obtain ⟨q3, hq3, hf⟩ := bd_s hf
  obtain ⟨he3, hf⟩ := gd_s hf
  refine lv_aload_n hx hb dL_law_192 rfl (lv_at hl 2 rfl) ?_
  refine lv_aload_n hx hb dL_law_193 rfl (lv_at hl 1 rfl) ?_
  refine lv_iload hx hb dL_law_194 (lv_at hl 0 rfl) ?_
  refine lv_iconst (v := 1) hx hb dL_law_196 (by decide) ?_
  refine lv_iadd hx hb dL_law_197 ?_
  refine l_sld C0 V (j := 1) ha hk (nI_add (7 * k) 1) (by decide) dL_law_198 ?_
  refine lv_aload_n hx hb dL_law_199 rfl (lv_at hl 1 rfl) ?_
  refine lv_iload hx hb dL_law_200 (lv_at hl 0 rfl) ?_
  refine lv_iconst (v := 2) hx hb dL_law_202 (by decide) ?_
  refine lv_iadd hx hb dL_law_203 ?_
  refine l_sld C0 V (j := 2) ha hk (nI_add (7 * k) 2) (by decide) dL_law_204 ?_
  refine lv_aload_n hx hb dL_law_205 rfl (lv_at hl 4 rfl) ?_
  refine kWH (As := [.ref (ad 203), .int (a 1), .int (a 2), .ref (ad 204)]) (rest := []) ⟨hx, hb, hml, hown, hts⟩ Z rfl V (c_L_player (l := l) (D := D) (y := y) (ad := fun k => ad (43 + k)) hstk hq1) (vx_cwSW 4 hts gL_law_L_player rfl rfl rfl (by decide +kernel) ⟨Nat.le_of_ble_eq_true rfl, Nat.le_of_ble_eq_true rfl⟩) rfl hl.1 rfl (Nat.le_of_ble_eq_true rfl) ⟨show cells + 1 ≤ 601024 by omega, show slots + 6 ≤ 7293034 by omega⟩ rfl dL_law_206 (fun H locs V => ?_)
  refine lv_istore (lv' := [(5, .int q1.1), (4, .int (nI (7 * k))), (0, .ref b), (1, .ref (ad 203)), (2, .ref (ad 42)), (3, .ref (ad 204))]) hx hb dL_law_209 hl (by decide) rfl (fun ls hl => ?_)
  refine lv_aload_n hx hb dL_law_211 rfl (lv_at hl 4 rfl) ?_
  refine lv_aload_n hx hb dL_law_212 rfl (lv_at hl 2 rfl) ?_
  refine lv_iload hx hb dL_law_213 (lv_at hl 1 rfl) ?_
  refine lv_iconst (v := 1) hx hb dL_law_215 (by decide) ?_
  refine lv_iadd hx hb dL_law_216 ?_
  refine l_sld C0 V (j := 1) ha hk (nI_add (7 * k) 1) (by decide) dL_law_217 ?_
  refine lv_aload_n hx hb dL_law_218 rfl (lv_at hl 2 rfl) ?_
  refine lv_iload hx hb dL_law_219 (lv_at hl 1 rfl) ?_
  refine lv_iconst (v := 2) hx hb dL_law_221 (by decide) ?_
  refine lv_iadd hx hb dL_law_222 ?_
  refine l_sld C0 V (j := 2) ha hk (nI_add (7 * k) 2) (by decide) dL_law_223 ?_
  refine kWMa (As := [.int (a 1), .int (a 2)]) (rest := []) ⟨hx, hb, hml, hown, hts⟩ ZN V (c_X7_player (l := l) (D := D) (y := y) (ad := ad) hq2) (cwV 2 hts gL_law_X7_player rfl rfl rfl (by decide +kernel) ⟨Nat.le_of_ble_eq_true rfl, Nat.le_of_ble_eq_true rfl⟩) (by omega) ((mW_0 (by omega)).trans (mM_m y ad _ _ _)) rfl rfl hl.1 rfl (Nat.le_of_ble_eq_true rfl) ⟨show cells + 1 + 0 ≤ 601024 by omega, show slots + 6 + 0 ≤ 7293034 by omega⟩ rfl dL_law_224 (fun H locs V => ?_)
  refine lv_istore (lv' := [(6, .int q2.1), (5, .int q1.1), (4, .int (nI (7 * k))), (0, .ref b), (1, .ref (ad 203)), (2, .ref (ad 42)), (3, .ref (ad 204))]) hx hb dL_law_227 hl (by decide) rfl (fun ls hl => ?_)
  refine lv_aload_n hx hb dL_law_229 rfl (lv_at hl 5 rfl) ?_
  refine kWMa (As := []) (rest := []) ⟨hx, hb, hml, hown, hts⟩ ZN V (c_X7_thrown (l := l) (D := D) (y := y) (ad := ad) hq3) (cwV 0 hts gL_law_X7_thrown rfl rfl rfl (by decide +kernel) ⟨Nat.le_of_ble_eq_true rfl, Nat.le_of_ble_eq_true rfl⟩) (by omega) ((mW_0 (by omega)).trans (mM_m y ad _ _ _)) rfl rfl hl.1 rfl (Nat.le_of_ble_eq_true rfl) ⟨show cells + 1 + 0 + 0 ≤ 601024 by omega, show slots + 6 + 0 + 0 ≤ 7293034 by omega⟩ rfl dL_law_230 (fun H locs V => ?_)
  refine lv_iload hx hb dL_law_233 (lv_at hl 1 rfl) ?_
  refine lv_icmp_eq (tgt := 240) hx hb dL_law_235 (by decide) (fun _ => ?_) (fun h => absurd he3 h)
  refine lv_iload hx hb dL_law_240 (lv_at hl 1 rfl) ?_
  refine lv_if_ne (tgt := 257) hx hb dL_law_242 (by decide) (fun h0 => ?_) (fun h0 => ?_)
  · replace hf := ite_f h0 hf
    obtain rfl := Option.some.inj hf
    refine lv_goto (tgt := 1453) hx hb dL_law_257 (by decide) ?_
    exact kk _ _ _ _ _ (by omega) (by omega) V (lv_sub hl [2, 3, 4, 5, 6] rfl)
  · replace hf := ite_t h0 hf
    obtain ⟨hv, hf⟩ := gd_s hf
    obtain rfl := Option.some.inj hf
    refine lv_aload_n hx hb dL_law_245 rfl (lv_at hl 6 rfl) ?_
    refine lv_iconst (v := 0) hx hb dL_law_246 (by decide) ?_
    refine oW_ld hx hb V (by decide +kernel) dL_law_247 ?_
    refine lv_iload hx hb dL_law_248 (lv_at hl 0 rfl) ?_
    refine lv_i2l hx hb dL_law_250 rfl ?_
    refine l_lcmp hx hb hv dL_law_251 ?_
    refine lv_if_eq (tgt := 257) hx hb dL_law_252 (by decide) (fun _ => ?_) (fun h => absurd rfl h)
    refine lv_goto (tgt := 1453) hx hb dL_law_257 (by decide) ?_
    exact kk _ _ _ _ _ (by omega) (by omega) V (lv_sub hl [2, 3, 4, 5, 6] rfl)
def s_buy (N : Nat) (a : Nat → Int32) (w : lW) : Option lW := (f_L_buy N w.σ w.τ w.o (a 1) (a 2)).bind fun q1 => (f_X7_buy N w.th w.ρ w.α (a 1) (a 2)).bind fun q2 => (f_X7_thrown N q2.2.1 q2.2.2.1 q2.2.2.2).bind fun q3 => if q3.1 = q1.1 then (if q1.1 = 0 then (if q1.2.2.2 (0 : Int32).toNatClampNeg = q2.1.toInt64 then some ⟨q3.2.1, q3.2.2.1, q3.2.2.2, q1.2.1, q1.2.2.1, q1.2.2.2⟩ else none) else some ⟨q3.2.1, q3.2.2.1, q3.2.2.2, q1.2.1, q1.2.2.1, q1.2.2.2⟩) else none
set_option maxHeartbeats 4000000 in
set_option maxRecDepth 100000 in
theorem l_buy {p : Program} {l : Launch} {e : Env} {s : State} {m : MethodId} {below : List Frame} {meth : Method} {c : Code} {H : Heap} {locs : List Loc} {cells slots : Nat} {Q : State → Prop} {ls : Array Slot} {D : va_G} {y : Nat → ClassId} {ad : Nat → Nat} {b L : Nat} {xs : Nat → Int32} {N k : Nat} {a : Nat → Int32} {w w' : lW} (hstk : l.stackTraces = false) (C0 : lEnv p s m meth c b L xs) (ha : ∀ j, a j = xs (7 * k + j)) (hk : 7 * k + 7 ≤ L) (hce : cells + 140 ≤ 601024) (hsl : slots + 800 ≤ 7293034) (hf : s_buy N a w = some w') (kk : ∀ (H : Heap) (locs : List Loc) (ls : Array Slot) (c1 s1 : Nat), c1 ≤ cells + 140 → s1 ≤ slots + 800 → lV D y s H locs ad w' → lv_has ls 9 [(4, .int (nI (7 * k))), (0, .ref b), (1, .ref (ad 203)), (2, .ref (ad 42)), (3, .ref (ad 204))] → W p l e room_1 s m #[Value.ref b] below meth c H locs c1 s1 Q (F0 m 1453 ls [])) (V : lV D y s H locs ad w) (hl : lv_has ls 9 [(4, .int (nI (7 * k))), (0, .ref b), (1, .ref (ad 203)), (2, .ref (ad 42)), (3, .ref (ad 204))]) : W p l e room_1 s m #[Value.ref b] below meth c H locs cells slots Q (F0 m 260 ls []) := by
  obtain ⟨hx, hb, hml, hown, hts, hX, hbl, Z, ZN, hL⟩ := id C0
  rw [s_buy] at hf
  obtain ⟨q1, hq1, hf⟩ := bd_s hf
  obtain ⟨q2, hq2, hf⟩ := bd_s hf
  obtain ⟨q3, hq3, hf⟩ := bd_s hf
  obtain ⟨he3, hf⟩ := gd_s hf
  refine lv_aload_n hx hb dL_law_260 rfl (lv_at hl 2 rfl) ?_
  refine lv_aload_n hx hb dL_law_261 rfl (lv_at hl 1 rfl) ?_
  refine lv_iload hx hb dL_law_262 (lv_at hl 0 rfl) ?_
  refine lv_iconst (v := 1) hx hb dL_law_264 (by decide) ?_
  refine lv_iadd hx hb dL_law_265 ?_
  refine l_sld C0 V (j := 1) ha hk (nI_add (7 * k) 1) (by decide) dL_law_266 ?_
  refine lv_aload_n hx hb dL_law_267 rfl (lv_at hl 1 rfl) ?_
  refine lv_iload hx hb dL_law_268 (lv_at hl 0 rfl) ?_
  refine lv_iconst (v := 2) hx hb dL_law_270 (by decide) ?_
  refine lv_iadd hx hb dL_law_271 ?_
  refine l_sld C0 V (j := 2) ha hk (nI_add (7 * k) 2) (by decide) dL_law_272 ?_
  refine lv_aload_n hx hb dL_law_273 rfl (lv_at hl 4 rfl) ?_
  refine kWH (As := [.ref (ad 203), .int (a 1), .int (a 2), .ref (ad 204)]) (rest := []) ⟨hx, hb, hml, hown, hts⟩ Z rfl V (c_L_buy (l := l) (D := D) (y := y) (ad := fun k => ad (43 + k)) hstk hq1) (vx_cwSW 4 hts gL_law_L_buy rfl rfl rfl (by decide +kernel) ⟨Nat.le_of_ble_eq_true rfl, Nat.le_of_ble_eq_true rfl⟩) rfl hl.1 rfl (Nat.le_of_ble_eq_true rfl) ⟨show cells + 1 ≤ 601024 by omega, show slots + 6 ≤ 7293034 by omega⟩ rfl dL_law_274 (fun H locs V => ?_)
  refine lv_istore (lv' := [(5, .int q1.1), (4, .int (nI (7 * k))), (0, .ref b), (1, .ref (ad 203)), (2, .ref (ad 42)), (3, .ref (ad 204))]) hx hb dL_law_277 hl (by decide) rfl (fun ls hl => ?_)
  refine lv_aload_n hx hb dL_law_279 rfl (lv_at hl 4 rfl) ?_
  refine lv_aload_n hx hb dL_law_280 rfl (lv_at hl 2 rfl) ?_
  refine lv_iload hx hb dL_law_281 (lv_at hl 1 rfl) ?_
  refine lv_iconst (v := 1) hx hb dL_law_283 (by decide) ?_
  refine lv_iadd hx hb dL_law_284 ?_
  refine l_sld C0 V (j := 1) ha hk (nI_add (7 * k) 1) (by decide) dL_law_285 ?_
  refine lv_aload_n hx hb dL_law_286 rfl (lv_at hl 2 rfl) ?_
  refine lv_iload hx hb dL_law_287 (lv_at hl 1 rfl) ?_
  refine lv_iconst (v := 2) hx hb dL_law_289 (by decide) ?_
  refine lv_iadd hx hb dL_law_290 ?_
  refine l_sld C0 V (j := 2) ha hk (nI_add (7 * k) 2) (by decide) dL_law_291 ?_
  refine kWMa (As := [.int (a 1), .int (a 2)]) (rest := []) ⟨hx, hb, hml, hown, hts⟩ ZN V (c_X7_buy (l := l) (D := D) (y := y) (ad := ad) hq2) (cwV 2 hts gL_law_X7_buy rfl rfl rfl (by decide +kernel) ⟨Nat.le_of_ble_eq_true rfl, Nat.le_of_ble_eq_true rfl⟩) (by omega) ((mW_0 (by omega)).trans (mM_m y ad _ _ _)) rfl rfl hl.1 rfl (Nat.le_of_ble_eq_true rfl) ⟨show cells + 1 + 0 ≤ 601024 by omega, show slots + 6 + 0 ≤ 7293034 by omega⟩ rfl dL_law_292 (fun H locs V => ?_)
  refine lv_istore (lv' := [(6, .int q2.1), (5, .int q1.1), (4, .int (nI (7 * k))), (0, .ref b), (1, .ref (ad 203)), (2, .ref (ad 42)), (3, .ref (ad 204))]) hx hb dL_law_295 hl (by decide) rfl (fun ls hl => ?_)
  refine lv_aload_n hx hb dL_law_297 rfl (lv_at hl 5 rfl) ?_
  refine kWMa (As := []) (rest := []) ⟨hx, hb, hml, hown, hts⟩ ZN V (c_X7_thrown (l := l) (D := D) (y := y) (ad := ad) hq3) (cwV 0 hts gL_law_X7_thrown rfl rfl rfl (by decide +kernel) ⟨Nat.le_of_ble_eq_true rfl, Nat.le_of_ble_eq_true rfl⟩) (by omega) ((mW_0 (by omega)).trans (mM_m y ad _ _ _)) rfl rfl hl.1 rfl (Nat.le_of_ble_eq_true rfl) ⟨show cells + 1 + 0 + 0 ≤ 601024 by omega, show slots + 6 + 0 + 0 ≤ 7293034 by omega⟩ rfl dL_law_298 (fun H locs V => ?_)
  refine lv_iload hx hb dL_law_301 (lv_at hl 1 rfl) ?_
  refine lv_icmp_eq (tgt := 308) hx hb dL_law_303 (by decide) (fun _ => ?_) (fun h => absurd he3 h)
  refine lv_iload hx hb dL_law_308 (lv_at hl 1 rfl) ?_
  refine lv_if_ne (tgt := 325) hx hb dL_law_310 (by decide) (fun h0 => ?_) (fun h0 => ?_)
  · replace hf := ite_f h0 hf
    obtain rfl := Option.some.inj hf
    refine lv_goto (tgt := 1453) hx hb dL_law_325 (by decide) ?_
    exact kk _ _ _ _ _ (by omega) (by omega) V (lv_sub hl [2, 3, 4, 5, 6] rfl)
  · replace hf := ite_t h0 hf
    obtain ⟨hv, hf⟩ := gd_s hf
    obtain rfl := Option.some.inj hf
    refine lv_aload_n hx hb dL_law_313 rfl (lv_at hl 6 rfl) ?_
    refine lv_iconst (v := 0) hx hb dL_law_314 (by decide) ?_
    refine oW_ld hx hb V (by decide +kernel) dL_law_315 ?_
    refine lv_iload hx hb dL_law_316 (lv_at hl 0 rfl) ?_
    refine lv_i2l hx hb dL_law_318 rfl ?_
    refine l_lcmp hx hb hv dL_law_319 ?_
    refine lv_if_eq (tgt := 325) hx hb dL_law_320 (by decide) (fun _ => ?_) (fun h => absurd rfl h)
    refine lv_goto (tgt := 1453) hx hb dL_law_325 (by decide) ?_
    exact kk _ _ _ _ _ (by omega) (by omega) V (lv_sub hl [2, 3, 4, 5, 6] rfl)
def s_sell (N : Nat) (a : Nat → Int32) (w : lW) : Option lW := (f_L_sell N w.σ w.τ w.o (a 1) (a 2)).bind fun q1 => (f_X7_sell N w.th w.ρ w.α (a 1) (a 2)).bind fun q2 => (f_X7_thrown N q2.2.1 q2.2.2.1 q2.2.2.2).bind fun q3 => if q3.1 = q1.1 then (if q1.1 = 0 then (if q1.2.2.2 (0 : Int32).toNatClampNeg = q2.1.toInt64 then some ⟨q3.2.1, q3.2.2.1, q3.2.2.2, q1.2.1, q1.2.2.1, q1.2.2.2⟩ else none) else some ⟨q3.2.1, q3.2.2.1, q3.2.2.2, q1.2.1, q1.2.2.1, q1.2.2.2⟩) else none
set_option maxHeartbeats 4000000 in
set_option maxRecDepth 100000 in
theorem l_sell {p : Program} {l : Launch} {e : Env} {s : State} {m : MethodId} {below : List Frame} {meth : Method} {c : Code} {H : Heap} {locs : List Loc} {cells slots : Nat} {Q : State → Prop} {ls : Array Slot} {D : va_G} {y : Nat → ClassId} {ad : Nat → Nat} {b L : Nat} {xs : Nat → Int32} {N k : Nat} {a : Nat → Int32} {w w' : lW} (hstk : l.stackTraces = false) (C0 : lEnv p s m meth c b L xs) (ha : ∀ j, a j = xs (7 * k + j)) (hk : 7 * k + 7 ≤ L) (hce : cells + 140 ≤ 601024) (hsl : slots + 800 ≤ 7293034) (hf : s_sell N a w = some w') (kk : ∀ (H : Heap) (locs : List Loc) (ls : Array Slot) (c1 s1 : Nat), c1 ≤ cells + 140 → s1 ≤ slots + 800 → lV D y s H locs ad w' → lv_has ls 9 [(4, .int (nI (7 * k))), (0, .ref b), (1, .ref (ad 203)), (2, .ref (ad 42)), (3, .ref (ad 204))] → W p l e room_1 s m #[Value.ref b] below meth c H locs c1 s1 Q (F0 m 1453 ls [])) (V : lV D y s H locs ad w) (hl : lv_has ls 9 [(4, .int (nI (7 * k))), (0, .ref b), (1, .ref (ad 203)), (2, .ref (ad 42)), (3, .ref (ad 204))]) : W p l e room_1 s m #[Value.ref b] below meth c H locs cells slots Q (F0 m 328 ls []) := by
  obtain ⟨hx, hb, hml, hown, hts, hX, hbl, Z, ZN, hL⟩ := id C0
  rw [s_sell] at hf
  obtain ⟨q1, hq1, hf⟩ := bd_s hf
  obtain ⟨q2, hq2, hf⟩ := bd_s hf
  obtain ⟨q3, hq3, hf⟩ := bd_s hf
  obtain ⟨he3, hf⟩ := gd_s hf
  refine lv_aload_n hx hb dL_law_328 rfl (lv_at hl 2 rfl) ?_
  refine lv_aload_n hx hb dL_law_329 rfl (lv_at hl 1 rfl) ?_
  refine lv_iload hx hb dL_law_330 (lv_at hl 0 rfl) ?_
  refine lv_iconst (v := 1) hx hb dL_law_332 (by decide) ?_
  refine lv_iadd hx hb dL_law_333 ?_
  refine l_sld C0 V (j := 1) ha hk (nI_add (7 * k) 1) (by decide) dL_law_334 ?_
  refine lv_aload_n hx hb dL_law_335 rfl (lv_at hl 1 rfl) ?_
  refine lv_iload hx hb dL_law_336 (lv_at hl 0 rfl) ?_
  refine lv_iconst (v := 2) hx hb dL_law_338 (by decide) ?_
  refine lv_iadd hx hb dL_law_339 ?_
  refine l_sld C0 V (j := 2) ha hk (nI_add (7 * k) 2) (by decide) dL_law_340 ?_
  refine lv_aload_n hx hb dL_law_341 rfl (lv_at hl 4 rfl) ?_
  refine kWH (As := [.ref (ad 203), .int (a 1), .int (a 2), .ref (ad 204)]) (rest := []) ⟨hx, hb, hml, hown, hts⟩ Z rfl V (c_L_sell (l := l) (D := D) (y := y) (ad := fun k => ad (43 + k)) hstk hq1) (vx_cwSW 4 hts gL_law_L_sell rfl rfl rfl (by decide +kernel) ⟨Nat.le_of_ble_eq_true rfl, Nat.le_of_ble_eq_true rfl⟩) rfl hl.1 rfl (Nat.le_of_ble_eq_true rfl) ⟨show cells + 1 ≤ 601024 by omega, show slots + 6 ≤ 7293034 by omega⟩ rfl dL_law_342 (fun H locs V => ?_)
  refine lv_istore (lv' := [(5, .int q1.1), (4, .int (nI (7 * k))), (0, .ref b), (1, .ref (ad 203)), (2, .ref (ad 42)), (3, .ref (ad 204))]) hx hb dL_law_345 hl (by decide) rfl (fun ls hl => ?_)
  refine lv_aload_n hx hb dL_law_347 rfl (lv_at hl 4 rfl) ?_
  refine lv_aload_n hx hb dL_law_348 rfl (lv_at hl 2 rfl) ?_
  refine lv_iload hx hb dL_law_349 (lv_at hl 1 rfl) ?_
  refine lv_iconst (v := 1) hx hb dL_law_351 (by decide) ?_
  refine lv_iadd hx hb dL_law_352 ?_
  refine l_sld C0 V (j := 1) ha hk (nI_add (7 * k) 1) (by decide) dL_law_353 ?_
  refine lv_aload_n hx hb dL_law_354 rfl (lv_at hl 2 rfl) ?_
  refine lv_iload hx hb dL_law_355 (lv_at hl 1 rfl) ?_
  refine lv_iconst (v := 2) hx hb dL_law_357 (by decide) ?_
  refine lv_iadd hx hb dL_law_358 ?_
  refine l_sld C0 V (j := 2) ha hk (nI_add (7 * k) 2) (by decide) dL_law_359 ?_
  refine kWMa (As := [.int (a 1), .int (a 2)]) (rest := []) ⟨hx, hb, hml, hown, hts⟩ ZN V (c_X7_sell (l := l) (D := D) (y := y) (ad := ad) hq2) (cwV 2 hts gL_law_X7_sell rfl rfl rfl (by decide +kernel) ⟨Nat.le_of_ble_eq_true rfl, Nat.le_of_ble_eq_true rfl⟩) (by omega) ((mW_0 (by omega)).trans (mM_m y ad _ _ _)) rfl rfl hl.1 rfl (Nat.le_of_ble_eq_true rfl) ⟨show cells + 1 + 0 ≤ 601024 by omega, show slots + 6 + 0 ≤ 7293034 by omega⟩ rfl dL_law_360 (fun H locs V => ?_)
  refine lv_istore (lv' := [(6, .int q2.1), (5, .int q1.1), (4, .int (nI (7 * k))), (0, .ref b), (1, .ref (ad 203)), (2, .ref (ad 42)), (3, .ref (ad 204))]) hx hb dL_law_363 hl (by decide) rfl (fun ls hl => ?_)
  refine lv_aload_n hx hb dL_law_365 rfl (lv_at hl 5 rfl) ?_
  refine kWMa (As := []) (rest := []) ⟨hx, hb, hml, hown, hts⟩ ZN V (c_X7_thrown (l := l) (D := D) (y := y) (ad := ad) hq3) (cwV 0 hts gL_law_X7_thrown rfl rfl rfl (by decide +kernel) ⟨Nat.le_of_ble_eq_true rfl, Nat.le_of_ble_eq_true rfl⟩) (by omega) ((mW_0 (by omega)).trans (mM_m y ad _ _ _)) rfl rfl hl.1 rfl (Nat.le_of_ble_eq_true rfl) ⟨show cells + 1 + 0 + 0 ≤ 601024 by omega, show slots + 6 + 0 + 0 ≤ 7293034 by omega⟩ rfl dL_law_366 (fun H locs V => ?_)
  refine lv_iload hx hb dL_law_369 (lv_at hl 1 rfl) ?_
  refine lv_icmp_eq (tgt := 376) hx hb dL_law_371 (by decide) (fun _ => ?_) (fun h => absurd he3 h)
  refine lv_iload hx hb dL_law_376 (lv_at hl 1 rfl) ?_
  refine lv_if_ne (tgt := 393) hx hb dL_law_378 (by decide) (fun h0 => ?_) (fun h0 => ?_)
  · replace hf := ite_f h0 hf
    obtain rfl := Option.some.inj hf
    refine lv_goto (tgt := 1453) hx hb dL_law_393 (by decide) ?_
    exact kk _ _ _ _ _ (by omega) (by omega) V (lv_sub hl [2, 3, 4, 5, 6] rfl)
  · replace hf := ite_t h0 hf
    obtain ⟨hv, hf⟩ := gd_s hf
    obtain rfl := Option.some.inj hf
    refine lv_aload_n hx hb dL_law_381 rfl (lv_at hl 6 rfl) ?_
    refine lv_iconst (v := 0) hx hb dL_law_382 (by decide) ?_
    refine oW_ld hx hb V (by decide +kernel) dL_law_383 ?_
    refine lv_iload hx hb dL_law_384 (lv_at hl 0 rfl) ?_
    refine lv_i2l hx hb dL_law_386 rfl ?_
    refine l_lcmp hx hb hv dL_law_387 ?_
    refine lv_if_eq (tgt := 393) hx hb dL_law_388 (by decide) (fun _ => ?_) (fun h => absurd rfl h)
    refine lv_goto (tgt := 1453) hx hb dL_law_393 (by decide) ?_
    exact kk _ _ _ _ _ (by omega) (by omega) V (lv_sub hl [2, 3, 4, 5, 6] rfl)
def s_borrow (N : Nat) (a : Nat → Int32) (w : lW) : Option lW := (f_L_borrow N w.σ w.τ w.o (a 1) (a 2) (a 3) (a 4)).bind fun q1 => (f_X7_borrow N w.th w.ρ w.α (a 1) (a 2) (a 3) (a 4)).bind fun q2 => (f_X7_thrown N q2.2.1 q2.2.2.1 q2.2.2.2).bind fun q3 => if q3.1 = q1.1 then (if q1.1 = 0 then (if q1.2.2.2 (0 : Int32).toNatClampNeg = q2.1.toInt64 then some ⟨q3.2.1, q3.2.2.1, q3.2.2.2, q1.2.1, q1.2.2.1, q1.2.2.2⟩ else none) else some ⟨q3.2.1, q3.2.2.1, q3.2.2.2, q1.2.1, q1.2.2.1, q1.2.2.2⟩) else none
set_option maxHeartbeats 4000000 in
set_option maxRecDepth 100000 in
theorem l_borrow {p : Program} {l : Launch} {e : Env} {s : State} {m : MethodId} {below : List Frame} {meth : Method} {c : Code} {H : Heap} {locs : List Loc} {cells slots : Nat} {Q : State → Prop} {ls : Array Slot} {D : va_G} {y : Nat → ClassId} {ad : Nat → Nat} {b L : Nat} {xs : Nat → Int32} {N k : Nat} {a : Nat → Int32} {w w' : lW} (hstk : l.stackTraces = false) (C0 : lEnv p s m meth c b L xs) (ha : ∀ j, a j = xs (7 * k + j)) (hk : 7 * k + 7 ≤ L) (hce : cells + 140 ≤ 601024) (hsl : slots + 800 ≤ 7293034) (hf : s_borrow N a w = some w') (kk : ∀ (H : Heap) (locs : List Loc) (ls : Array Slot) (c1 s1 : Nat), c1 ≤ cells + 140 → s1 ≤ slots + 800 → lV D y s H locs ad w' → lv_has ls 9 [(4, .int (nI (7 * k))), (0, .ref b), (1, .ref (ad 203)), (2, .ref (ad 42)), (3, .ref (ad 204))] → W p l e room_1 s m #[Value.ref b] below meth c H locs c1 s1 Q (F0 m 1453 ls [])) (V : lV D y s H locs ad w) (hl : lv_has ls 9 [(4, .int (nI (7 * k))), (0, .ref b), (1, .ref (ad 203)), (2, .ref (ad 42)), (3, .ref (ad 204))]) : W p l e room_1 s m #[Value.ref b] below meth c H locs cells slots Q (F0 m 396 ls []) := by
  obtain ⟨hx, hb, hml, hown, hts, hX, hbl, Z, ZN, hL⟩ := id C0
  rw [s_borrow] at hf
  obtain ⟨q1, hq1, hf⟩ := bd_s hf
  obtain ⟨q2, hq2, hf⟩ := bd_s hf
  obtain ⟨q3, hq3, hf⟩ := bd_s hf
  obtain ⟨he3, hf⟩ := gd_s hf
  refine lv_aload_n hx hb dL_law_396 rfl (lv_at hl 2 rfl) ?_
  refine lv_aload_n hx hb dL_law_397 rfl (lv_at hl 1 rfl) ?_
  refine lv_iload hx hb dL_law_398 (lv_at hl 0 rfl) ?_
  refine lv_iconst (v := 1) hx hb dL_law_400 (by decide) ?_
  refine lv_iadd hx hb dL_law_401 ?_
  refine l_sld C0 V (j := 1) ha hk (nI_add (7 * k) 1) (by decide) dL_law_402 ?_
  refine lv_aload_n hx hb dL_law_403 rfl (lv_at hl 1 rfl) ?_
  refine lv_iload hx hb dL_law_404 (lv_at hl 0 rfl) ?_
  refine lv_iconst (v := 2) hx hb dL_law_406 (by decide) ?_
  refine lv_iadd hx hb dL_law_407 ?_
  refine l_sld C0 V (j := 2) ha hk (nI_add (7 * k) 2) (by decide) dL_law_408 ?_
  refine lv_aload_n hx hb dL_law_409 rfl (lv_at hl 1 rfl) ?_
  refine lv_iload hx hb dL_law_410 (lv_at hl 0 rfl) ?_
  refine lv_iconst (v := 3) hx hb dL_law_412 (by decide) ?_
  refine lv_iadd hx hb dL_law_413 ?_
  refine l_sld C0 V (j := 3) ha hk (nI_add (7 * k) 3) (by decide) dL_law_414 ?_
  refine lv_aload_n hx hb dL_law_415 rfl (lv_at hl 1 rfl) ?_
  refine lv_iload hx hb dL_law_416 (lv_at hl 0 rfl) ?_
  refine lv_iconst (v := 4) hx hb dL_law_418 (by decide) ?_
  refine lv_iadd hx hb dL_law_419 ?_
  refine l_sld C0 V (j := 4) ha hk (nI_add (7 * k) 4) (by decide) dL_law_420 ?_
  refine lv_aload_n hx hb dL_law_421 rfl (lv_at hl 4 rfl) ?_
  refine kWH (As := [.ref (ad 203), .int (a 1), .int (a 2), .int (a 3), .int (a 4), .ref (ad 204)]) (rest := []) ⟨hx, hb, hml, hown, hts⟩ Z rfl V (c_L_borrow (l := l) (D := D) (y := y) (ad := fun k => ad (43 + k)) hstk hq1) (vx_cwSW 6 hts gL_law_L_borrow rfl rfl rfl (by decide +kernel) ⟨Nat.le_of_ble_eq_true rfl, Nat.le_of_ble_eq_true rfl⟩) rfl hl.1 rfl (Nat.le_of_ble_eq_true rfl) ⟨show cells + 1 ≤ 601024 by omega, show slots + 6 ≤ 7293034 by omega⟩ rfl dL_law_422 (fun H locs V => ?_)
  refine lv_istore (lv' := [(5, .int q1.1), (4, .int (nI (7 * k))), (0, .ref b), (1, .ref (ad 203)), (2, .ref (ad 42)), (3, .ref (ad 204))]) hx hb dL_law_425 hl (by decide) rfl (fun ls hl => ?_)
  refine lv_aload_n hx hb dL_law_427 rfl (lv_at hl 4 rfl) ?_
  refine lv_aload_n hx hb dL_law_428 rfl (lv_at hl 2 rfl) ?_
  refine lv_iload hx hb dL_law_429 (lv_at hl 1 rfl) ?_
  refine lv_iconst (v := 1) hx hb dL_law_431 (by decide) ?_
  refine lv_iadd hx hb dL_law_432 ?_
  refine l_sld C0 V (j := 1) ha hk (nI_add (7 * k) 1) (by decide) dL_law_433 ?_
  refine lv_aload_n hx hb dL_law_434 rfl (lv_at hl 2 rfl) ?_
  refine lv_iload hx hb dL_law_435 (lv_at hl 1 rfl) ?_
  refine lv_iconst (v := 2) hx hb dL_law_437 (by decide) ?_
  refine lv_iadd hx hb dL_law_438 ?_
  refine l_sld C0 V (j := 2) ha hk (nI_add (7 * k) 2) (by decide) dL_law_439 ?_
  refine lv_aload_n hx hb dL_law_440 rfl (lv_at hl 2 rfl) ?_
  refine lv_iload hx hb dL_law_441 (lv_at hl 1 rfl) ?_
  refine lv_iconst (v := 3) hx hb dL_law_443 (by decide) ?_
  refine lv_iadd hx hb dL_law_444 ?_
  refine l_sld C0 V (j := 3) ha hk (nI_add (7 * k) 3) (by decide) dL_law_445 ?_
  refine lv_aload_n hx hb dL_law_446 rfl (lv_at hl 2 rfl) ?_
  refine lv_iload hx hb dL_law_447 (lv_at hl 1 rfl) ?_
  refine lv_iconst (v := 4) hx hb dL_law_449 (by decide) ?_
  refine lv_iadd hx hb dL_law_450 ?_
  refine l_sld C0 V (j := 4) ha hk (nI_add (7 * k) 4) (by decide) dL_law_451 ?_
  refine kWMa (As := [.int (a 1), .int (a 2), .int (a 3), .int (a 4)]) (rest := []) ⟨hx, hb, hml, hown, hts⟩ ZN V (c_X7_borrow (l := l) (D := D) (y := y) (ad := ad) hq2) (cwV 4 hts gL_law_X7_borrow rfl rfl rfl (by decide +kernel) ⟨Nat.le_of_ble_eq_true rfl, Nat.le_of_ble_eq_true rfl⟩) (by omega) ((mW_0 (by omega)).trans (mM_m y ad _ _ _)) rfl rfl hl.1 rfl (Nat.le_of_ble_eq_true rfl) ⟨show cells + 1 + 0 ≤ 601024 by omega, show slots + 6 + 0 ≤ 7293034 by omega⟩ rfl dL_law_452 (fun H locs V => ?_)
  refine lv_istore (lv' := [(6, .int q2.1), (5, .int q1.1), (4, .int (nI (7 * k))), (0, .ref b), (1, .ref (ad 203)), (2, .ref (ad 42)), (3, .ref (ad 204))]) hx hb dL_law_455 hl (by decide) rfl (fun ls hl => ?_)
  refine lv_aload_n hx hb dL_law_457 rfl (lv_at hl 5 rfl) ?_
  refine kWMa (As := []) (rest := []) ⟨hx, hb, hml, hown, hts⟩ ZN V (c_X7_thrown (l := l) (D := D) (y := y) (ad := ad) hq3) (cwV 0 hts gL_law_X7_thrown rfl rfl rfl (by decide +kernel) ⟨Nat.le_of_ble_eq_true rfl, Nat.le_of_ble_eq_true rfl⟩) (by omega) ((mW_0 (by omega)).trans (mM_m y ad _ _ _)) rfl rfl hl.1 rfl (Nat.le_of_ble_eq_true rfl) ⟨show cells + 1 + 0 + 0 ≤ 601024 by omega, show slots + 6 + 0 + 0 ≤ 7293034 by omega⟩ rfl dL_law_458 (fun H locs V => ?_)
  refine lv_iload hx hb dL_law_461 (lv_at hl 1 rfl) ?_
  refine lv_icmp_eq (tgt := 468) hx hb dL_law_463 (by decide) (fun _ => ?_) (fun h => absurd he3 h)
  refine lv_iload hx hb dL_law_468 (lv_at hl 1 rfl) ?_
  refine lv_if_ne (tgt := 485) hx hb dL_law_470 (by decide) (fun h0 => ?_) (fun h0 => ?_)
  · replace hf := ite_f h0 hf
    obtain rfl := Option.some.inj hf
    refine lv_goto (tgt := 1453) hx hb dL_law_485 (by decide) ?_
    exact kk _ _ _ _ _ (by omega) (by omega) V (lv_sub hl [2, 3, 4, 5, 6] rfl)
  · replace hf := ite_t h0 hf
    obtain ⟨hv, hf⟩ := gd_s hf
    obtain rfl := Option.some.inj hf
    refine lv_aload_n hx hb dL_law_473 rfl (lv_at hl 6 rfl) ?_
    refine lv_iconst (v := 0) hx hb dL_law_474 (by decide) ?_
    refine oW_ld hx hb V (by decide +kernel) dL_law_475 ?_
    refine lv_iload hx hb dL_law_476 (lv_at hl 0 rfl) ?_
    refine lv_i2l hx hb dL_law_478 rfl ?_
    refine l_lcmp hx hb hv dL_law_479 ?_
    refine lv_if_eq (tgt := 485) hx hb dL_law_480 (by decide) (fun _ => ?_) (fun h => absurd rfl h)
    refine lv_goto (tgt := 1453) hx hb dL_law_485 (by decide) ?_
    exact kk _ _ _ _ _ (by omega) (by omega) V (lv_sub hl [2, 3, 4, 5, 6] rfl)
def s_repay (N : Nat) (a : Nat → Int32) (w : lW) : Option lW := (f_L_repay N w.σ w.τ w.o (a 1) (a 2)).bind fun q1 => (f_X7_repay N w.th w.ρ w.α (a 1) (a 2)).bind fun q2 => (f_X7_thrown N q2.2.1 q2.2.2.1 q2.2.2.2).bind fun q3 => if q3.1 = q1.1 then (if q1.1 = 0 then (if q1.2.2.2 (0 : Int32).toNatClampNeg = q2.1.toInt64 then some ⟨q3.2.1, q3.2.2.1, q3.2.2.2, q1.2.1, q1.2.2.1, q1.2.2.2⟩ else none) else some ⟨q3.2.1, q3.2.2.1, q3.2.2.2, q1.2.1, q1.2.2.1, q1.2.2.2⟩) else none
set_option maxHeartbeats 4000000 in
set_option maxRecDepth 100000 in
theorem l_repay {p : Program} {l : Launch} {e : Env} {s : State} {m : MethodId} {below : List Frame} {meth : Method} {c : Code} {H : Heap} {locs : List Loc} {cells slots : Nat} {Q : State → Prop} {ls : Array Slot} {D : va_G} {y : Nat → ClassId} {ad : Nat → Nat} {b L : Nat} {xs : Nat → Int32} {N k : Nat} {a : Nat → Int32} {w w' : lW} (hstk : l.stackTraces = false) (C0 : lEnv p s m meth c b L xs) (ha : ∀ j, a j = xs (7 * k + j)) (hk : 7 * k + 7 ≤ L) (hce : cells + 140 ≤ 601024) (hsl : slots + 800 ≤ 7293034) (hf : s_repay N a w = some w') (kk : ∀ (H : Heap) (locs : List Loc) (ls : Array Slot) (c1 s1 : Nat), c1 ≤ cells + 140 → s1 ≤ slots + 800 → lV D y s H locs ad w' → lv_has ls 9 [(4, .int (nI (7 * k))), (0, .ref b), (1, .ref (ad 203)), (2, .ref (ad 42)), (3, .ref (ad 204))] → W p l e room_1 s m #[Value.ref b] below meth c H locs c1 s1 Q (F0 m 1453 ls [])) (V : lV D y s H locs ad w) (hl : lv_has ls 9 [(4, .int (nI (7 * k))), (0, .ref b), (1, .ref (ad 203)), (2, .ref (ad 42)), (3, .ref (ad 204))]) : W p l e room_1 s m #[Value.ref b] below meth c H locs cells slots Q (F0 m 488 ls []) := by
  obtain ⟨hx, hb, hml, hown, hts, hX, hbl, Z, ZN, hL⟩ := id C0
  rw [s_repay] at hf
  obtain ⟨q1, hq1, hf⟩ := bd_s hf
  obtain ⟨q2, hq2, hf⟩ := bd_s hf
  obtain ⟨q3, hq3, hf⟩ := bd_s hf
  obtain ⟨he3, hf⟩ := gd_s hf
  refine lv_aload_n hx hb dL_law_488 rfl (lv_at hl 2 rfl) ?_
  refine lv_aload_n hx hb dL_law_489 rfl (lv_at hl 1 rfl) ?_
  refine lv_iload hx hb dL_law_490 (lv_at hl 0 rfl) ?_
  refine lv_iconst (v := 1) hx hb dL_law_492 (by decide) ?_
  refine lv_iadd hx hb dL_law_493 ?_
  refine l_sld C0 V (j := 1) ha hk (nI_add (7 * k) 1) (by decide) dL_law_494 ?_
  refine lv_aload_n hx hb dL_law_495 rfl (lv_at hl 1 rfl) ?_
  refine lv_iload hx hb dL_law_496 (lv_at hl 0 rfl) ?_
  refine lv_iconst (v := 2) hx hb dL_law_498 (by decide) ?_
  refine lv_iadd hx hb dL_law_499 ?_
  refine l_sld C0 V (j := 2) ha hk (nI_add (7 * k) 2) (by decide) dL_law_500 ?_
  refine lv_aload_n hx hb dL_law_501 rfl (lv_at hl 4 rfl) ?_
  refine kWH (As := [.ref (ad 203), .int (a 1), .int (a 2), .ref (ad 204)]) (rest := []) ⟨hx, hb, hml, hown, hts⟩ Z rfl V (c_L_repay (l := l) (D := D) (y := y) (ad := fun k => ad (43 + k)) hstk hq1) (vx_cwSW 4 hts gL_law_L_repay rfl rfl rfl (by decide +kernel) ⟨Nat.le_of_ble_eq_true rfl, Nat.le_of_ble_eq_true rfl⟩) rfl hl.1 rfl (Nat.le_of_ble_eq_true rfl) ⟨show cells + 1 ≤ 601024 by omega, show slots + 6 ≤ 7293034 by omega⟩ rfl dL_law_502 (fun H locs V => ?_)
  refine lv_istore (lv' := [(5, .int q1.1), (4, .int (nI (7 * k))), (0, .ref b), (1, .ref (ad 203)), (2, .ref (ad 42)), (3, .ref (ad 204))]) hx hb dL_law_505 hl (by decide) rfl (fun ls hl => ?_)
  refine lv_aload_n hx hb dL_law_507 rfl (lv_at hl 4 rfl) ?_
  refine lv_aload_n hx hb dL_law_508 rfl (lv_at hl 2 rfl) ?_
  refine lv_iload hx hb dL_law_509 (lv_at hl 1 rfl) ?_
  refine lv_iconst (v := 1) hx hb dL_law_511 (by decide) ?_
  refine lv_iadd hx hb dL_law_512 ?_
  refine l_sld C0 V (j := 1) ha hk (nI_add (7 * k) 1) (by decide) dL_law_513 ?_
  refine lv_aload_n hx hb dL_law_514 rfl (lv_at hl 2 rfl) ?_
  refine lv_iload hx hb dL_law_515 (lv_at hl 1 rfl) ?_
  refine lv_iconst (v := 2) hx hb dL_law_517 (by decide) ?_
  refine lv_iadd hx hb dL_law_518 ?_
  refine l_sld C0 V (j := 2) ha hk (nI_add (7 * k) 2) (by decide) dL_law_519 ?_
  refine kWMa (As := [.int (a 1), .int (a 2)]) (rest := []) ⟨hx, hb, hml, hown, hts⟩ ZN V (c_X7_repay (l := l) (D := D) (y := y) (ad := ad) hq2) (cwV 2 hts gL_law_X7_repay rfl rfl rfl (by decide +kernel) ⟨Nat.le_of_ble_eq_true rfl, Nat.le_of_ble_eq_true rfl⟩) (by omega) ((mW_0 (by omega)).trans (mM_m y ad _ _ _)) rfl rfl hl.1 rfl (Nat.le_of_ble_eq_true rfl) ⟨show cells + 1 + 0 ≤ 601024 by omega, show slots + 6 + 0 ≤ 7293034 by omega⟩ rfl dL_law_520 (fun H locs V => ?_)
  refine lv_istore (lv' := [(6, .int q2.1), (5, .int q1.1), (4, .int (nI (7 * k))), (0, .ref b), (1, .ref (ad 203)), (2, .ref (ad 42)), (3, .ref (ad 204))]) hx hb dL_law_523 hl (by decide) rfl (fun ls hl => ?_)
  refine lv_aload_n hx hb dL_law_525 rfl (lv_at hl 5 rfl) ?_
  refine kWMa (As := []) (rest := []) ⟨hx, hb, hml, hown, hts⟩ ZN V (c_X7_thrown (l := l) (D := D) (y := y) (ad := ad) hq3) (cwV 0 hts gL_law_X7_thrown rfl rfl rfl (by decide +kernel) ⟨Nat.le_of_ble_eq_true rfl, Nat.le_of_ble_eq_true rfl⟩) (by omega) ((mW_0 (by omega)).trans (mM_m y ad _ _ _)) rfl rfl hl.1 rfl (Nat.le_of_ble_eq_true rfl) ⟨show cells + 1 + 0 + 0 ≤ 601024 by omega, show slots + 6 + 0 + 0 ≤ 7293034 by omega⟩ rfl dL_law_526 (fun H locs V => ?_)
  refine lv_iload hx hb dL_law_529 (lv_at hl 1 rfl) ?_
  refine lv_icmp_eq (tgt := 536) hx hb dL_law_531 (by decide) (fun _ => ?_) (fun h => absurd he3 h)
  refine lv_iload hx hb dL_law_536 (lv_at hl 1 rfl) ?_
  refine lv_if_ne (tgt := 553) hx hb dL_law_538 (by decide) (fun h0 => ?_) (fun h0 => ?_)
  · replace hf := ite_f h0 hf
    obtain rfl := Option.some.inj hf
    refine lv_goto (tgt := 1453) hx hb dL_law_553 (by decide) ?_
    exact kk _ _ _ _ _ (by omega) (by omega) V (lv_sub hl [2, 3, 4, 5, 6] rfl)
  · replace hf := ite_t h0 hf
    obtain ⟨hv, hf⟩ := gd_s hf
    obtain rfl := Option.some.inj hf
    refine lv_aload_n hx hb dL_law_541 rfl (lv_at hl 6 rfl) ?_
    refine lv_iconst (v := 0) hx hb dL_law_542 (by decide) ?_
    refine oW_ld hx hb V (by decide +kernel) dL_law_543 ?_
    refine lv_iload hx hb dL_law_544 (lv_at hl 0 rfl) ?_
    refine lv_i2l hx hb dL_law_546 rfl ?_
    refine l_lcmp hx hb hv dL_law_547 ?_
    refine lv_if_eq (tgt := 553) hx hb dL_law_548 (by decide) (fun _ => ?_) (fun h => absurd rfl h)
    refine lv_goto (tgt := 1453) hx hb dL_law_553 (by decide) ?_
    exact kk _ _ _ _ _ (by omega) (by omega) V (lv_sub hl [2, 3, 4, 5, 6] rfl)
def s_loan (N : Nat) (a : Nat → Int32) (w : lW) : Option lW := (f_L_loan N w.σ w.τ w.o (a 1) (a 2)).bind fun q1 => (f_X7_loan N w.th w.ρ w.α (a 1) (a 2)).bind fun q2 => (f_X7_thrown N q2.2.1 q2.2.2.1 q2.2.2.2).bind fun q3 => if q3.1 = q1.1 then (if q1.1 = 0 then (if q1.2.2.2 (0 : Int32).toNatClampNeg = q2.1.toInt64 then some ⟨q3.2.1, q3.2.2.1, q3.2.2.2, q1.2.1, q1.2.2.1, q1.2.2.2⟩ else none) else some ⟨q3.2.1, q3.2.2.1, q3.2.2.2, q1.2.1, q1.2.2.1, q1.2.2.2⟩) else none
set_option maxHeartbeats 4000000 in
set_option maxRecDepth 100000 in
theorem l_loan {p : Program} {l : Launch} {e : Env} {s : State} {m : MethodId} {below : List Frame} {meth : Method} {c : Code} {H : Heap} {locs : List Loc} {cells slots : Nat} {Q : State → Prop} {ls : Array Slot} {D : va_G} {y : Nat → ClassId} {ad : Nat → Nat} {b L : Nat} {xs : Nat → Int32} {N k : Nat} {a : Nat → Int32} {w w' : lW} (hstk : l.stackTraces = false) (C0 : lEnv p s m meth c b L xs) (ha : ∀ j, a j = xs (7 * k + j)) (hk : 7 * k + 7 ≤ L) (hce : cells + 140 ≤ 601024) (hsl : slots + 800 ≤ 7293034) (hf : s_loan N a w = some w') (kk : ∀ (H : Heap) (locs : List Loc) (ls : Array Slot) (c1 s1 : Nat), c1 ≤ cells + 140 → s1 ≤ slots + 800 → lV D y s H locs ad w' → lv_has ls 9 [(4, .int (nI (7 * k))), (0, .ref b), (1, .ref (ad 203)), (2, .ref (ad 42)), (3, .ref (ad 204))] → W p l e room_1 s m #[Value.ref b] below meth c H locs c1 s1 Q (F0 m 1453 ls [])) (V : lV D y s H locs ad w) (hl : lv_has ls 9 [(4, .int (nI (7 * k))), (0, .ref b), (1, .ref (ad 203)), (2, .ref (ad 42)), (3, .ref (ad 204))]) : W p l e room_1 s m #[Value.ref b] below meth c H locs cells slots Q (F0 m 556 ls []) := by
  obtain ⟨hx, hb, hml, hown, hts, hX, hbl, Z, ZN, hL⟩ := id C0
  rw [s_loan] at hf
  obtain ⟨q1, hq1, hf⟩ := bd_s hf
  obtain ⟨q2, hq2, hf⟩ := bd_s hf
  obtain ⟨q3, hq3, hf⟩ := bd_s hf
  obtain ⟨he3, hf⟩ := gd_s hf
  refine lv_aload_n hx hb dL_law_556 rfl (lv_at hl 2 rfl) ?_
  refine lv_aload_n hx hb dL_law_557 rfl (lv_at hl 1 rfl) ?_
  refine lv_iload hx hb dL_law_558 (lv_at hl 0 rfl) ?_
  refine lv_iconst (v := 1) hx hb dL_law_560 (by decide) ?_
  refine lv_iadd hx hb dL_law_561 ?_
  refine l_sld C0 V (j := 1) ha hk (nI_add (7 * k) 1) (by decide) dL_law_562 ?_
  refine lv_aload_n hx hb dL_law_563 rfl (lv_at hl 1 rfl) ?_
  refine lv_iload hx hb dL_law_564 (lv_at hl 0 rfl) ?_
  refine lv_iconst (v := 2) hx hb dL_law_566 (by decide) ?_
  refine lv_iadd hx hb dL_law_567 ?_
  refine l_sld C0 V (j := 2) ha hk (nI_add (7 * k) 2) (by decide) dL_law_568 ?_
  refine lv_aload_n hx hb dL_law_569 rfl (lv_at hl 4 rfl) ?_
  refine kWH (As := [.ref (ad 203), .int (a 1), .int (a 2), .ref (ad 204)]) (rest := []) ⟨hx, hb, hml, hown, hts⟩ Z rfl V (c_L_loan (l := l) (D := D) (y := y) (ad := fun k => ad (43 + k)) hstk hq1) (vx_cwSW 4 hts gL_law_L_loan rfl rfl rfl (by decide +kernel) ⟨Nat.le_of_ble_eq_true rfl, Nat.le_of_ble_eq_true rfl⟩) rfl hl.1 rfl (Nat.le_of_ble_eq_true rfl) ⟨show cells + 1 ≤ 601024 by omega, show slots + 6 ≤ 7293034 by omega⟩ rfl dL_law_570 (fun H locs V => ?_)
  refine lv_istore (lv' := [(5, .int q1.1), (4, .int (nI (7 * k))), (0, .ref b), (1, .ref (ad 203)), (2, .ref (ad 42)), (3, .ref (ad 204))]) hx hb dL_law_573 hl (by decide) rfl (fun ls hl => ?_)
  refine lv_aload_n hx hb dL_law_575 rfl (lv_at hl 4 rfl) ?_
  refine lv_aload_n hx hb dL_law_576 rfl (lv_at hl 2 rfl) ?_
  refine lv_iload hx hb dL_law_577 (lv_at hl 1 rfl) ?_
  refine lv_iconst (v := 1) hx hb dL_law_579 (by decide) ?_
  refine lv_iadd hx hb dL_law_580 ?_
  refine l_sld C0 V (j := 1) ha hk (nI_add (7 * k) 1) (by decide) dL_law_581 ?_
  refine lv_aload_n hx hb dL_law_582 rfl (lv_at hl 2 rfl) ?_
  refine lv_iload hx hb dL_law_583 (lv_at hl 1 rfl) ?_
  refine lv_iconst (v := 2) hx hb dL_law_585 (by decide) ?_
  refine lv_iadd hx hb dL_law_586 ?_
  refine l_sld C0 V (j := 2) ha hk (nI_add (7 * k) 2) (by decide) dL_law_587 ?_
  refine kWMa (As := [.int (a 1), .int (a 2)]) (rest := []) ⟨hx, hb, hml, hown, hts⟩ ZN V (c_X7_loan (l := l) (D := D) (y := y) (ad := ad) hq2) (cwV 2 hts gL_law_X7_loan rfl rfl rfl (by decide +kernel) ⟨Nat.le_of_ble_eq_true rfl, Nat.le_of_ble_eq_true rfl⟩) (by omega) ((mW_0 (by omega)).trans (mM_m y ad _ _ _)) rfl rfl hl.1 rfl (Nat.le_of_ble_eq_true rfl) ⟨show cells + 1 + 1 ≤ 601024 by omega, show slots + 6 + 5 ≤ 7293034 by omega⟩ rfl dL_law_588 (fun H locs V => ?_)
  refine lv_istore (lv' := [(6, .int q2.1), (5, .int q1.1), (4, .int (nI (7 * k))), (0, .ref b), (1, .ref (ad 203)), (2, .ref (ad 42)), (3, .ref (ad 204))]) hx hb dL_law_591 hl (by decide) rfl (fun ls hl => ?_)
  refine lv_aload_n hx hb dL_law_593 rfl (lv_at hl 5 rfl) ?_
  refine kWMa (As := []) (rest := []) ⟨hx, hb, hml, hown, hts⟩ ZN V (c_X7_thrown (l := l) (D := D) (y := y) (ad := ad) hq3) (cwV 0 hts gL_law_X7_thrown rfl rfl rfl (by decide +kernel) ⟨Nat.le_of_ble_eq_true rfl, Nat.le_of_ble_eq_true rfl⟩) (by omega) ((mW_0 (by omega)).trans (mM_m y ad _ _ _)) rfl rfl hl.1 rfl (Nat.le_of_ble_eq_true rfl) ⟨show cells + 1 + 1 + 0 ≤ 601024 by omega, show slots + 6 + 5 + 0 ≤ 7293034 by omega⟩ rfl dL_law_594 (fun H locs V => ?_)
  refine lv_iload hx hb dL_law_597 (lv_at hl 1 rfl) ?_
  refine lv_icmp_eq (tgt := 604) hx hb dL_law_599 (by decide) (fun _ => ?_) (fun h => absurd he3 h)
  refine lv_iload hx hb dL_law_604 (lv_at hl 1 rfl) ?_
  refine lv_if_ne (tgt := 621) hx hb dL_law_606 (by decide) (fun h0 => ?_) (fun h0 => ?_)
  · replace hf := ite_f h0 hf
    obtain rfl := Option.some.inj hf
    refine lv_goto (tgt := 1453) hx hb dL_law_621 (by decide) ?_
    exact kk _ _ _ _ _ (by omega) (by omega) V (lv_sub hl [2, 3, 4, 5, 6] rfl)
  · replace hf := ite_t h0 hf
    obtain ⟨hv, hf⟩ := gd_s hf
    obtain rfl := Option.some.inj hf
    refine lv_aload_n hx hb dL_law_609 rfl (lv_at hl 6 rfl) ?_
    refine lv_iconst (v := 0) hx hb dL_law_610 (by decide) ?_
    refine oW_ld hx hb V (by decide +kernel) dL_law_611 ?_
    refine lv_iload hx hb dL_law_612 (lv_at hl 0 rfl) ?_
    refine lv_i2l hx hb dL_law_614 rfl ?_
    refine l_lcmp hx hb hv dL_law_615 ?_
    refine lv_if_eq (tgt := 621) hx hb dL_law_616 (by decide) (fun _ => ?_) (fun h => absurd rfl h)
    refine lv_goto (tgt := 1453) hx hb dL_law_621 (by decide) ?_
    exact kk _ _ _ _ _ (by omega) (by omega) V (lv_sub hl [2, 3, 4, 5, 6] rfl)
def s_begin (N : Nat) (a : Nat → Int32) (w : lW) : Option lW := (f_L_begin N w.σ w.τ w.o (a 1) (a 2) (a 3) (a 4) (a 5) (a 6)).bind fun q1 => (f_X7_begin N w.th w.ρ w.α (a 1) (a 2) (a 3) (a 4) (a 5) (a 6)).bind fun q2 => (f_X7_thrown N q2.2.1 q2.2.2.1 q2.2.2.2).bind fun q3 => if q3.1 = q1.1 then (if q1.1 = 0 then (if q1.2.2.2 (0 : Int32).toNatClampNeg = q2.1.toInt64 then some ⟨q3.2.1, q3.2.2.1, q3.2.2.2, q1.2.1, q1.2.2.1, q1.2.2.2⟩ else none) else some ⟨q3.2.1, q3.2.2.1, q3.2.2.2, q1.2.1, q1.2.2.1, q1.2.2.2⟩) else none
set_option maxHeartbeats 4000000 in
set_option maxRecDepth 100000 in
theorem l_begin {p : Program} {l : Launch} {e : Env} {s : State} {m : MethodId} {below : List Frame} {meth : Method} {c : Code} {H : Heap} {locs : List Loc} {cells slots : Nat} {Q : State → Prop} {ls : Array Slot} {D : va_G} {y : Nat → ClassId} {ad : Nat → Nat} {b L : Nat} {xs : Nat → Int32} {N k : Nat} {a : Nat → Int32} {w w' : lW} (hstk : l.stackTraces = false) (C0 : lEnv p s m meth c b L xs) (ha : ∀ j, a j = xs (7 * k + j)) (hk : 7 * k + 7 ≤ L) (hce : cells + 140 ≤ 601024) (hsl : slots + 800 ≤ 7293034) (hf : s_begin N a w = some w') (kk : ∀ (H : Heap) (locs : List Loc) (ls : Array Slot) (c1 s1 : Nat), c1 ≤ cells + 140 → s1 ≤ slots + 800 → lV D y s H locs ad w' → lv_has ls 9 [(4, .int (nI (7 * k))), (0, .ref b), (1, .ref (ad 203)), (2, .ref (ad 42)), (3, .ref (ad 204))] → W p l e room_1 s m #[Value.ref b] below meth c H locs c1 s1 Q (F0 m 1453 ls [])) (V : lV D y s H locs ad w) (hl : lv_has ls 9 [(4, .int (nI (7 * k))), (0, .ref b), (1, .ref (ad 203)), (2, .ref (ad 42)), (3, .ref (ad 204))]) : W p l e room_1 s m #[Value.ref b] below meth c H locs cells slots Q (F0 m 624 ls []) := by
  obtain ⟨hx, hb, hml, hown, hts, hX, hbl, Z, ZN, hL⟩ := id C0
  rw [s_begin] at hf
  obtain ⟨q1, hq1, hf⟩ := bd_s hf
  obtain ⟨q2, hq2, hf⟩ := bd_s hf
  obtain ⟨q3, hq3, hf⟩ := bd_s hf
  obtain ⟨he3, hf⟩ := gd_s hf
  refine lv_aload_n hx hb dL_law_624 rfl (lv_at hl 2 rfl) ?_
  refine lv_aload_n hx hb dL_law_625 rfl (lv_at hl 1 rfl) ?_
  refine lv_iload hx hb dL_law_626 (lv_at hl 0 rfl) ?_
  refine lv_iconst (v := 1) hx hb dL_law_628 (by decide) ?_
  refine lv_iadd hx hb dL_law_629 ?_
  refine l_sld C0 V (j := 1) ha hk (nI_add (7 * k) 1) (by decide) dL_law_630 ?_
  refine lv_aload_n hx hb dL_law_631 rfl (lv_at hl 1 rfl) ?_
  refine lv_iload hx hb dL_law_632 (lv_at hl 0 rfl) ?_
  refine lv_iconst (v := 2) hx hb dL_law_634 (by decide) ?_
  refine lv_iadd hx hb dL_law_635 ?_
  refine l_sld C0 V (j := 2) ha hk (nI_add (7 * k) 2) (by decide) dL_law_636 ?_
  refine lv_aload_n hx hb dL_law_637 rfl (lv_at hl 1 rfl) ?_
  refine lv_iload hx hb dL_law_638 (lv_at hl 0 rfl) ?_
  refine lv_iconst (v := 3) hx hb dL_law_640 (by decide) ?_
  refine lv_iadd hx hb dL_law_641 ?_
  refine l_sld C0 V (j := 3) ha hk (nI_add (7 * k) 3) (by decide) dL_law_642 ?_
  refine lv_aload_n hx hb dL_law_643 rfl (lv_at hl 1 rfl) ?_
  refine lv_iload hx hb dL_law_644 (lv_at hl 0 rfl) ?_
  refine lv_iconst (v := 4) hx hb dL_law_646 (by decide) ?_
  refine lv_iadd hx hb dL_law_647 ?_
  refine l_sld C0 V (j := 4) ha hk (nI_add (7 * k) 4) (by decide) dL_law_648 ?_
  refine lv_aload_n hx hb dL_law_649 rfl (lv_at hl 1 rfl) ?_
  refine lv_iload hx hb dL_law_650 (lv_at hl 0 rfl) ?_
  refine lv_iconst (v := 5) hx hb dL_law_652 (by decide) ?_
  refine lv_iadd hx hb dL_law_653 ?_
  refine l_sld C0 V (j := 5) ha hk (nI_add (7 * k) 5) (by decide) dL_law_654 ?_
  refine lv_aload_n hx hb dL_law_655 rfl (lv_at hl 1 rfl) ?_
  refine lv_iload hx hb dL_law_656 (lv_at hl 0 rfl) ?_
  refine lv_bipush (v := 6) hx hb dL_law_658 (by decide) ?_
  refine lv_iadd hx hb dL_law_660 ?_
  refine l_sld C0 V (j := 6) ha hk (nI_add (7 * k) 6) (by decide) dL_law_661 ?_
  refine lv_aload_n hx hb dL_law_662 rfl (lv_at hl 4 rfl) ?_
  refine kWH (As := [.ref (ad 203), .int (a 1), .int (a 2), .int (a 3), .int (a 4), .int (a 5), .int (a 6), .ref (ad 204)]) (rest := []) ⟨hx, hb, hml, hown, hts⟩ Z rfl V (c_L_begin (l := l) (D := D) (y := y) (ad := fun k => ad (43 + k)) hstk hq1) (vx_cwSW 8 hts gL_law_L_begin rfl rfl rfl (by decide +kernel) ⟨Nat.le_of_ble_eq_true rfl, Nat.le_of_ble_eq_true rfl⟩) rfl hl.1 rfl (Nat.le_of_ble_eq_true rfl) ⟨show cells + 1 ≤ 601024 by omega, show slots + 6 ≤ 7293034 by omega⟩ rfl dL_law_663 (fun H locs V => ?_)
  refine lv_istore (lv' := [(5, .int q1.1), (4, .int (nI (7 * k))), (0, .ref b), (1, .ref (ad 203)), (2, .ref (ad 42)), (3, .ref (ad 204))]) hx hb dL_law_666 hl (by decide) rfl (fun ls hl => ?_)
  refine lv_aload_n hx hb dL_law_668 rfl (lv_at hl 4 rfl) ?_
  refine lv_aload_n hx hb dL_law_669 rfl (lv_at hl 2 rfl) ?_
  refine lv_iload hx hb dL_law_670 (lv_at hl 1 rfl) ?_
  refine lv_iconst (v := 1) hx hb dL_law_672 (by decide) ?_
  refine lv_iadd hx hb dL_law_673 ?_
  refine l_sld C0 V (j := 1) ha hk (nI_add (7 * k) 1) (by decide) dL_law_674 ?_
  refine lv_aload_n hx hb dL_law_675 rfl (lv_at hl 2 rfl) ?_
  refine lv_iload hx hb dL_law_676 (lv_at hl 1 rfl) ?_
  refine lv_iconst (v := 2) hx hb dL_law_678 (by decide) ?_
  refine lv_iadd hx hb dL_law_679 ?_
  refine l_sld C0 V (j := 2) ha hk (nI_add (7 * k) 2) (by decide) dL_law_680 ?_
  refine lv_aload_n hx hb dL_law_681 rfl (lv_at hl 2 rfl) ?_
  refine lv_iload hx hb dL_law_682 (lv_at hl 1 rfl) ?_
  refine lv_iconst (v := 3) hx hb dL_law_684 (by decide) ?_
  refine lv_iadd hx hb dL_law_685 ?_
  refine l_sld C0 V (j := 3) ha hk (nI_add (7 * k) 3) (by decide) dL_law_686 ?_
  refine lv_aload_n hx hb dL_law_687 rfl (lv_at hl 2 rfl) ?_
  refine lv_iload hx hb dL_law_688 (lv_at hl 1 rfl) ?_
  refine lv_iconst (v := 4) hx hb dL_law_690 (by decide) ?_
  refine lv_iadd hx hb dL_law_691 ?_
  refine l_sld C0 V (j := 4) ha hk (nI_add (7 * k) 4) (by decide) dL_law_692 ?_
  refine lv_aload_n hx hb dL_law_693 rfl (lv_at hl 2 rfl) ?_
  refine lv_iload hx hb dL_law_694 (lv_at hl 1 rfl) ?_
  refine lv_iconst (v := 5) hx hb dL_law_696 (by decide) ?_
  refine lv_iadd hx hb dL_law_697 ?_
  refine l_sld C0 V (j := 5) ha hk (nI_add (7 * k) 5) (by decide) dL_law_698 ?_
  refine lv_aload_n hx hb dL_law_699 rfl (lv_at hl 2 rfl) ?_
  refine lv_iload hx hb dL_law_700 (lv_at hl 1 rfl) ?_
  refine lv_bipush (v := 6) hx hb dL_law_702 (by decide) ?_
  refine lv_iadd hx hb dL_law_704 ?_
  refine l_sld C0 V (j := 6) ha hk (nI_add (7 * k) 6) (by decide) dL_law_705 ?_
  refine kWMa (As := [.int (a 1), .int (a 2), .int (a 3), .int (a 4), .int (a 5), .int (a 6)]) (rest := []) ⟨hx, hb, hml, hown, hts⟩ ZN V (c_X7_begin (l := l) (D := D) (y := y) (ad := ad) hq2) (cwV 6 hts gL_law_X7_begin rfl rfl rfl (by decide +kernel) ⟨Nat.le_of_ble_eq_true rfl, Nat.le_of_ble_eq_true rfl⟩) (by omega) ((mW_0 (by omega)).trans (mM_m y ad _ _ _)) rfl rfl hl.1 rfl (Nat.le_of_ble_eq_true rfl) ⟨show cells + 1 + 0 ≤ 601024 by omega, show slots + 6 + 0 ≤ 7293034 by omega⟩ rfl dL_law_706 (fun H locs V => ?_)
  refine lv_istore (lv' := [(6, .int q2.1), (5, .int q1.1), (4, .int (nI (7 * k))), (0, .ref b), (1, .ref (ad 203)), (2, .ref (ad 42)), (3, .ref (ad 204))]) hx hb dL_law_709 hl (by decide) rfl (fun ls hl => ?_)
  refine lv_aload_n hx hb dL_law_711 rfl (lv_at hl 5 rfl) ?_
  refine kWMa (As := []) (rest := []) ⟨hx, hb, hml, hown, hts⟩ ZN V (c_X7_thrown (l := l) (D := D) (y := y) (ad := ad) hq3) (cwV 0 hts gL_law_X7_thrown rfl rfl rfl (by decide +kernel) ⟨Nat.le_of_ble_eq_true rfl, Nat.le_of_ble_eq_true rfl⟩) (by omega) ((mW_0 (by omega)).trans (mM_m y ad _ _ _)) rfl rfl hl.1 rfl (Nat.le_of_ble_eq_true rfl) ⟨show cells + 1 + 0 + 0 ≤ 601024 by omega, show slots + 6 + 0 + 0 ≤ 7293034 by omega⟩ rfl dL_law_712 (fun H locs V => ?_)
  refine lv_iload hx hb dL_law_715 (lv_at hl 1 rfl) ?_
  refine lv_icmp_eq (tgt := 722) hx hb dL_law_717 (by decide) (fun _ => ?_) (fun h => absurd he3 h)
  refine lv_iload hx hb dL_law_722 (lv_at hl 1 rfl) ?_
  refine lv_if_ne (tgt := 739) hx hb dL_law_724 (by decide) (fun h0 => ?_) (fun h0 => ?_)
  · replace hf := ite_f h0 hf
    obtain rfl := Option.some.inj hf
    refine lv_goto (tgt := 1453) hx hb dL_law_739 (by decide) ?_
    exact kk _ _ _ _ _ (by omega) (by omega) V (lv_sub hl [2, 3, 4, 5, 6] rfl)
  · replace hf := ite_t h0 hf
    obtain ⟨hv, hf⟩ := gd_s hf
    obtain rfl := Option.some.inj hf
    refine lv_aload_n hx hb dL_law_727 rfl (lv_at hl 6 rfl) ?_
    refine lv_iconst (v := 0) hx hb dL_law_728 (by decide) ?_
    refine oW_ld hx hb V (by decide +kernel) dL_law_729 ?_
    refine lv_iload hx hb dL_law_730 (lv_at hl 0 rfl) ?_
    refine lv_i2l hx hb dL_law_732 rfl ?_
    refine l_lcmp hx hb hv dL_law_733 ?_
    refine lv_if_eq (tgt := 739) hx hb dL_law_734 (by decide) (fun _ => ?_) (fun h => absurd rfl h)
    refine lv_goto (tgt := 1453) hx hb dL_law_739 (by decide) ?_
    exact kk _ _ _ _ _ (by omega) (by omega) V (lv_sub hl [2, 3, 4, 5, 6] rfl)
def s_press (N : Nat) (a : Nat → Int32) (w : lW) : Option lW := (f_L_press N w.σ w.τ w.o (a 1)).bind fun q1 => (f_X7_press N w.th w.ρ w.α (a 1)).bind fun q2 => (f_X7_thrown N q2.2.1 q2.2.2.1 q2.2.2.2).bind fun q3 => if q3.1 = q1.1 then (if q1.1 = 0 then (if q1.2.2.2 (0 : Int32).toNatClampNeg = q2.1.toInt64 then some ⟨q3.2.1, q3.2.2.1, q3.2.2.2, q1.2.1, q1.2.2.1, q1.2.2.2⟩ else none) else some ⟨q3.2.1, q3.2.2.1, q3.2.2.2, q1.2.1, q1.2.2.1, q1.2.2.2⟩) else none
set_option maxHeartbeats 4000000 in
set_option maxRecDepth 100000 in
theorem l_press {p : Program} {l : Launch} {e : Env} {s : State} {m : MethodId} {below : List Frame} {meth : Method} {c : Code} {H : Heap} {locs : List Loc} {cells slots : Nat} {Q : State → Prop} {ls : Array Slot} {D : va_G} {y : Nat → ClassId} {ad : Nat → Nat} {b L : Nat} {xs : Nat → Int32} {N k : Nat} {a : Nat → Int32} {w w' : lW} (hstk : l.stackTraces = false) (C0 : lEnv p s m meth c b L xs) (ha : ∀ j, a j = xs (7 * k + j)) (hk : 7 * k + 7 ≤ L) (hce : cells + 140 ≤ 601024) (hsl : slots + 800 ≤ 7293034) (hf : s_press N a w = some w') (kk : ∀ (H : Heap) (locs : List Loc) (ls : Array Slot) (c1 s1 : Nat), c1 ≤ cells + 140 → s1 ≤ slots + 800 → lV D y s H locs ad w' → lv_has ls 9 [(4, .int (nI (7 * k))), (0, .ref b), (1, .ref (ad 203)), (2, .ref (ad 42)), (3, .ref (ad 204))] → W p l e room_1 s m #[Value.ref b] below meth c H locs c1 s1 Q (F0 m 1453 ls [])) (V : lV D y s H locs ad w) (hl : lv_has ls 9 [(4, .int (nI (7 * k))), (0, .ref b), (1, .ref (ad 203)), (2, .ref (ad 42)), (3, .ref (ad 204))]) : W p l e room_1 s m #[Value.ref b] below meth c H locs cells slots Q (F0 m 742 ls []) := by
  obtain ⟨hx, hb, hml, hown, hts, hX, hbl, Z, ZN, hL⟩ := id C0
  rw [s_press] at hf
  obtain ⟨q1, hq1, hf⟩ := bd_s hf
  obtain ⟨q2, hq2, hf⟩ := bd_s hf
  obtain ⟨q3, hq3, hf⟩ := bd_s hf
  obtain ⟨he3, hf⟩ := gd_s hf
  refine lv_aload_n hx hb dL_law_742 rfl (lv_at hl 2 rfl) ?_
  refine lv_aload_n hx hb dL_law_743 rfl (lv_at hl 1 rfl) ?_
  refine lv_iload hx hb dL_law_744 (lv_at hl 0 rfl) ?_
  refine lv_iconst (v := 1) hx hb dL_law_746 (by decide) ?_
  refine lv_iadd hx hb dL_law_747 ?_
  refine l_sld C0 V (j := 1) ha hk (nI_add (7 * k) 1) (by decide) dL_law_748 ?_
  refine lv_aload_n hx hb dL_law_749 rfl (lv_at hl 4 rfl) ?_
  refine kWH (As := [.ref (ad 203), .int (a 1), .ref (ad 204)]) (rest := []) ⟨hx, hb, hml, hown, hts⟩ Z rfl V (c_L_press (l := l) (D := D) (y := y) (ad := fun k => ad (43 + k)) hstk hq1) (vx_cwSW 3 hts gL_law_L_press rfl rfl rfl (by decide +kernel) ⟨Nat.le_of_ble_eq_true rfl, Nat.le_of_ble_eq_true rfl⟩) rfl hl.1 rfl (Nat.le_of_ble_eq_true rfl) ⟨show cells + 1 ≤ 601024 by omega, show slots + 6 ≤ 7293034 by omega⟩ rfl dL_law_750 (fun H locs V => ?_)
  refine lv_istore (lv' := [(5, .int q1.1), (4, .int (nI (7 * k))), (0, .ref b), (1, .ref (ad 203)), (2, .ref (ad 42)), (3, .ref (ad 204))]) hx hb dL_law_753 hl (by decide) rfl (fun ls hl => ?_)
  refine lv_aload_n hx hb dL_law_755 rfl (lv_at hl 4 rfl) ?_
  refine lv_aload_n hx hb dL_law_756 rfl (lv_at hl 2 rfl) ?_
  refine lv_iload hx hb dL_law_757 (lv_at hl 1 rfl) ?_
  refine lv_iconst (v := 1) hx hb dL_law_759 (by decide) ?_
  refine lv_iadd hx hb dL_law_760 ?_
  refine l_sld C0 V (j := 1) ha hk (nI_add (7 * k) 1) (by decide) dL_law_761 ?_
  refine kWMa (As := [.int (a 1)]) (rest := []) ⟨hx, hb, hml, hown, hts⟩ ZN V (c_X7_press (l := l) (D := D) (y := y) (ad := ad) hq2) (cwV 1 hts gL_law_X7_press rfl rfl rfl (by decide +kernel) ⟨Nat.le_of_ble_eq_true rfl, Nat.le_of_ble_eq_true rfl⟩) (by omega) ((mW_0 (by omega)).trans (mM_m y ad _ _ _)) rfl rfl hl.1 rfl (Nat.le_of_ble_eq_true rfl) ⟨show cells + 1 + 0 ≤ 601024 by omega, show slots + 6 + 0 ≤ 7293034 by omega⟩ rfl dL_law_762 (fun H locs V => ?_)
  refine lv_istore (lv' := [(6, .int q2.1), (5, .int q1.1), (4, .int (nI (7 * k))), (0, .ref b), (1, .ref (ad 203)), (2, .ref (ad 42)), (3, .ref (ad 204))]) hx hb dL_law_765 hl (by decide) rfl (fun ls hl => ?_)
  refine lv_aload_n hx hb dL_law_767 rfl (lv_at hl 5 rfl) ?_
  refine kWMa (As := []) (rest := []) ⟨hx, hb, hml, hown, hts⟩ ZN V (c_X7_thrown (l := l) (D := D) (y := y) (ad := ad) hq3) (cwV 0 hts gL_law_X7_thrown rfl rfl rfl (by decide +kernel) ⟨Nat.le_of_ble_eq_true rfl, Nat.le_of_ble_eq_true rfl⟩) (by omega) ((mW_0 (by omega)).trans (mM_m y ad _ _ _)) rfl rfl hl.1 rfl (Nat.le_of_ble_eq_true rfl) ⟨show cells + 1 + 0 + 0 ≤ 601024 by omega, show slots + 6 + 0 + 0 ≤ 7293034 by omega⟩ rfl dL_law_768 (fun H locs V => ?_)
  refine lv_iload hx hb dL_law_771 (lv_at hl 1 rfl) ?_
  refine lv_icmp_eq (tgt := 778) hx hb dL_law_773 (by decide) (fun _ => ?_) (fun h => absurd he3 h)
  refine lv_iload hx hb dL_law_778 (lv_at hl 1 rfl) ?_
  refine lv_if_ne (tgt := 795) hx hb dL_law_780 (by decide) (fun h0 => ?_) (fun h0 => ?_)
  · replace hf := ite_f h0 hf
    obtain rfl := Option.some.inj hf
    refine lv_goto (tgt := 1453) hx hb dL_law_795 (by decide) ?_
    exact kk _ _ _ _ _ (by omega) (by omega) V (lv_sub hl [2, 3, 4, 5, 6] rfl)
  · replace hf := ite_t h0 hf
    obtain ⟨hv, hf⟩ := gd_s hf
    obtain rfl := Option.some.inj hf
    refine lv_aload_n hx hb dL_law_783 rfl (lv_at hl 6 rfl) ?_
    refine lv_iconst (v := 0) hx hb dL_law_784 (by decide) ?_
    refine oW_ld hx hb V (by decide +kernel) dL_law_785 ?_
    refine lv_iload hx hb dL_law_786 (lv_at hl 0 rfl) ?_
    refine lv_i2l hx hb dL_law_788 rfl ?_
    refine l_lcmp hx hb hv dL_law_789 ?_
    refine lv_if_eq (tgt := 795) hx hb dL_law_790 (by decide) (fun _ => ?_) (fun h => absurd rfl h)
    refine lv_goto (tgt := 1453) hx hb dL_law_795 (by decide) ?_
    exact kk _ _ _ _ _ (by omega) (by omega) V (lv_sub hl [2, 3, 4, 5, 6] rfl)
def s_put (N : Nat) (a : Nat → Int32) (w : lW) : Option lW := (f_L_put N w.σ w.τ w.o (a 1) (a 2) (a 3)).bind fun q1 => (f_X7_put N w.th w.ρ w.α (a 1) (a 2) (a 3)).bind fun q2 => (f_X7_thrown N q2.2.1 q2.2.2.1 q2.2.2.2).bind fun q3 => if q3.1 = q1.1 then (if q1.1 = 0 then (if q1.2.2.2 (0 : Int32).toNatClampNeg = q2.1.toInt64 then some ⟨q3.2.1, q3.2.2.1, q3.2.2.2, q1.2.1, q1.2.2.1, q1.2.2.2⟩ else none) else some ⟨q3.2.1, q3.2.2.1, q3.2.2.2, q1.2.1, q1.2.2.1, q1.2.2.2⟩) else none
set_option maxHeartbeats 4000000 in
set_option maxRecDepth 100000 in
theorem l_put {p : Program} {l : Launch} {e : Env} {s : State} {m : MethodId} {below : List Frame} {meth : Method} {c : Code} {H : Heap} {locs : List Loc} {cells slots : Nat} {Q : State → Prop} {ls : Array Slot} {D : va_G} {y : Nat → ClassId} {ad : Nat → Nat} {b L : Nat} {xs : Nat → Int32} {N k : Nat} {a : Nat → Int32} {w w' : lW} (hstk : l.stackTraces = false) (C0 : lEnv p s m meth c b L xs) (ha : ∀ j, a j = xs (7 * k + j)) (hk : 7 * k + 7 ≤ L) (hce : cells + 140 ≤ 601024) (hsl : slots + 800 ≤ 7293034) (hf : s_put N a w = some w') (kk : ∀ (H : Heap) (locs : List Loc) (ls : Array Slot) (c1 s1 : Nat), c1 ≤ cells + 140 → s1 ≤ slots + 800 → lV D y s H locs ad w' → lv_has ls 9 [(4, .int (nI (7 * k))), (0, .ref b), (1, .ref (ad 203)), (2, .ref (ad 42)), (3, .ref (ad 204))] → W p l e room_1 s m #[Value.ref b] below meth c H locs c1 s1 Q (F0 m 1453 ls [])) (V : lV D y s H locs ad w) (hl : lv_has ls 9 [(4, .int (nI (7 * k))), (0, .ref b), (1, .ref (ad 203)), (2, .ref (ad 42)), (3, .ref (ad 204))]) : W p l e room_1 s m #[Value.ref b] below meth c H locs cells slots Q (F0 m 798 ls []) := by
  obtain ⟨hx, hb, hml, hown, hts, hX, hbl, Z, ZN, hL⟩ := id C0
  rw [s_put] at hf
  obtain ⟨q1, hq1, hf⟩ := bd_s hf
  obtain ⟨q2, hq2, hf⟩ := bd_s hf
  obtain ⟨q3, hq3, hf⟩ := bd_s hf
  obtain ⟨he3, hf⟩ := gd_s hf
  refine lv_aload_n hx hb dL_law_798 rfl (lv_at hl 2 rfl) ?_
  refine lv_aload_n hx hb dL_law_799 rfl (lv_at hl 1 rfl) ?_
  refine lv_iload hx hb dL_law_800 (lv_at hl 0 rfl) ?_
  refine lv_iconst (v := 1) hx hb dL_law_802 (by decide) ?_
  refine lv_iadd hx hb dL_law_803 ?_
  refine l_sld C0 V (j := 1) ha hk (nI_add (7 * k) 1) (by decide) dL_law_804 ?_
  refine lv_aload_n hx hb dL_law_805 rfl (lv_at hl 1 rfl) ?_
  refine lv_iload hx hb dL_law_806 (lv_at hl 0 rfl) ?_
  refine lv_iconst (v := 2) hx hb dL_law_808 (by decide) ?_
  refine lv_iadd hx hb dL_law_809 ?_
  refine l_sld C0 V (j := 2) ha hk (nI_add (7 * k) 2) (by decide) dL_law_810 ?_
  refine lv_aload_n hx hb dL_law_811 rfl (lv_at hl 1 rfl) ?_
  refine lv_iload hx hb dL_law_812 (lv_at hl 0 rfl) ?_
  refine lv_iconst (v := 3) hx hb dL_law_814 (by decide) ?_
  refine lv_iadd hx hb dL_law_815 ?_
  refine l_sld C0 V (j := 3) ha hk (nI_add (7 * k) 3) (by decide) dL_law_816 ?_
  refine lv_aload_n hx hb dL_law_817 rfl (lv_at hl 4 rfl) ?_
  refine kWH (As := [.ref (ad 203), .int (a 1), .int (a 2), .int (a 3), .ref (ad 204)]) (rest := []) ⟨hx, hb, hml, hown, hts⟩ Z rfl V (c_L_put (l := l) (D := D) (y := y) (ad := fun k => ad (43 + k)) hstk hq1) (vx_cwSW 5 hts gL_law_L_put rfl rfl rfl (by decide +kernel) ⟨Nat.le_of_ble_eq_true rfl, Nat.le_of_ble_eq_true rfl⟩) rfl hl.1 rfl (Nat.le_of_ble_eq_true rfl) ⟨show cells + 1 ≤ 601024 by omega, show slots + 6 ≤ 7293034 by omega⟩ rfl dL_law_818 (fun H locs V => ?_)
  refine lv_istore (lv' := [(5, .int q1.1), (4, .int (nI (7 * k))), (0, .ref b), (1, .ref (ad 203)), (2, .ref (ad 42)), (3, .ref (ad 204))]) hx hb dL_law_821 hl (by decide) rfl (fun ls hl => ?_)
  refine lv_aload_n hx hb dL_law_823 rfl (lv_at hl 4 rfl) ?_
  refine lv_aload_n hx hb dL_law_824 rfl (lv_at hl 2 rfl) ?_
  refine lv_iload hx hb dL_law_825 (lv_at hl 1 rfl) ?_
  refine lv_iconst (v := 1) hx hb dL_law_827 (by decide) ?_
  refine lv_iadd hx hb dL_law_828 ?_
  refine l_sld C0 V (j := 1) ha hk (nI_add (7 * k) 1) (by decide) dL_law_829 ?_
  refine lv_aload_n hx hb dL_law_830 rfl (lv_at hl 2 rfl) ?_
  refine lv_iload hx hb dL_law_831 (lv_at hl 1 rfl) ?_
  refine lv_iconst (v := 2) hx hb dL_law_833 (by decide) ?_
  refine lv_iadd hx hb dL_law_834 ?_
  refine l_sld C0 V (j := 2) ha hk (nI_add (7 * k) 2) (by decide) dL_law_835 ?_
  refine lv_aload_n hx hb dL_law_836 rfl (lv_at hl 2 rfl) ?_
  refine lv_iload hx hb dL_law_837 (lv_at hl 1 rfl) ?_
  refine lv_iconst (v := 3) hx hb dL_law_839 (by decide) ?_
  refine lv_iadd hx hb dL_law_840 ?_
  refine l_sld C0 V (j := 3) ha hk (nI_add (7 * k) 3) (by decide) dL_law_841 ?_
  refine kWMa (As := [.int (a 1), .int (a 2), .int (a 3)]) (rest := []) ⟨hx, hb, hml, hown, hts⟩ ZN V (c_X7_put (l := l) (D := D) (y := y) (ad := ad) hq2) (cwV 3 hts gL_law_X7_put rfl rfl rfl (by decide +kernel) ⟨Nat.le_of_ble_eq_true rfl, Nat.le_of_ble_eq_true rfl⟩) (by omega) ((mW_0 (by omega)).trans (mM_m y ad _ _ _)) rfl rfl hl.1 rfl (Nat.le_of_ble_eq_true rfl) ⟨show cells + 1 + 0 ≤ 601024 by omega, show slots + 6 + 0 ≤ 7293034 by omega⟩ rfl dL_law_842 (fun H locs V => ?_)
  refine lv_istore (lv' := [(6, .int q2.1), (5, .int q1.1), (4, .int (nI (7 * k))), (0, .ref b), (1, .ref (ad 203)), (2, .ref (ad 42)), (3, .ref (ad 204))]) hx hb dL_law_845 hl (by decide) rfl (fun ls hl => ?_)
  refine lv_aload_n hx hb dL_law_847 rfl (lv_at hl 5 rfl) ?_
  refine kWMa (As := []) (rest := []) ⟨hx, hb, hml, hown, hts⟩ ZN V (c_X7_thrown (l := l) (D := D) (y := y) (ad := ad) hq3) (cwV 0 hts gL_law_X7_thrown rfl rfl rfl (by decide +kernel) ⟨Nat.le_of_ble_eq_true rfl, Nat.le_of_ble_eq_true rfl⟩) (by omega) ((mW_0 (by omega)).trans (mM_m y ad _ _ _)) rfl rfl hl.1 rfl (Nat.le_of_ble_eq_true rfl) ⟨show cells + 1 + 0 + 0 ≤ 601024 by omega, show slots + 6 + 0 + 0 ≤ 7293034 by omega⟩ rfl dL_law_848 (fun H locs V => ?_)
  refine lv_iload hx hb dL_law_851 (lv_at hl 1 rfl) ?_
  refine lv_icmp_eq (tgt := 858) hx hb dL_law_853 (by decide) (fun _ => ?_) (fun h => absurd he3 h)
  refine lv_iload hx hb dL_law_858 (lv_at hl 1 rfl) ?_
  refine lv_if_ne (tgt := 875) hx hb dL_law_860 (by decide) (fun h0 => ?_) (fun h0 => ?_)
  · replace hf := ite_f h0 hf
    obtain rfl := Option.some.inj hf
    refine lv_goto (tgt := 1453) hx hb dL_law_875 (by decide) ?_
    exact kk _ _ _ _ _ (by omega) (by omega) V (lv_sub hl [2, 3, 4, 5, 6] rfl)
  · replace hf := ite_t h0 hf
    obtain ⟨hv, hf⟩ := gd_s hf
    obtain rfl := Option.some.inj hf
    refine lv_aload_n hx hb dL_law_863 rfl (lv_at hl 6 rfl) ?_
    refine lv_iconst (v := 0) hx hb dL_law_864 (by decide) ?_
    refine oW_ld hx hb V (by decide +kernel) dL_law_865 ?_
    refine lv_iload hx hb dL_law_866 (lv_at hl 0 rfl) ?_
    refine lv_i2l hx hb dL_law_868 rfl ?_
    refine l_lcmp hx hb hv dL_law_869 ?_
    refine lv_if_eq (tgt := 875) hx hb dL_law_870 (by decide) (fun _ => ?_) (fun h => absurd rfl h)
    refine lv_goto (tgt := 1453) hx hb dL_law_875 (by decide) ?_
    exact kk _ _ _ _ _ (by omega) (by omega) V (lv_sub hl [2, 3, 4, 5, 6] rfl)
def s_steal (N : Nat) (a : Nat → Int32) (w : lW) : Option lW := (f_L_steal N w.σ w.τ w.o (a 1) (a 2) (a 3)).bind fun q1 => (f_X7_steal N w.th w.ρ w.α (a 1) (a 2) (a 3)).bind fun q2 => (f_X7_thrown N q2.2.1 q2.2.2.1 q2.2.2.2).bind fun q3 => if q3.1 = q1.1 then (if q1.1 = 0 then (if q1.2.2.2 (0 : Int32).toNatClampNeg = q2.1.toInt64 then some ⟨q3.2.1, q3.2.2.1, q3.2.2.2, q1.2.1, q1.2.2.1, q1.2.2.2⟩ else none) else some ⟨q3.2.1, q3.2.2.1, q3.2.2.2, q1.2.1, q1.2.2.1, q1.2.2.2⟩) else none
set_option maxHeartbeats 4000000 in
set_option maxRecDepth 100000 in
theorem l_steal {p : Program} {l : Launch} {e : Env} {s : State} {m : MethodId} {below : List Frame} {meth : Method} {c : Code} {H : Heap} {locs : List Loc} {cells slots : Nat} {Q : State → Prop} {ls : Array Slot} {D : va_G} {y : Nat → ClassId} {ad : Nat → Nat} {b L : Nat} {xs : Nat → Int32} {N k : Nat} {a : Nat → Int32} {w w' : lW} (hstk : l.stackTraces = false) (C0 : lEnv p s m meth c b L xs) (ha : ∀ j, a j = xs (7 * k + j)) (hk : 7 * k + 7 ≤ L) (hce : cells + 140 ≤ 601024) (hsl : slots + 800 ≤ 7293034) (hf : s_steal N a w = some w') (kk : ∀ (H : Heap) (locs : List Loc) (ls : Array Slot) (c1 s1 : Nat), c1 ≤ cells + 140 → s1 ≤ slots + 800 → lV D y s H locs ad w' → lv_has ls 9 [(4, .int (nI (7 * k))), (0, .ref b), (1, .ref (ad 203)), (2, .ref (ad 42)), (3, .ref (ad 204))] → W p l e room_1 s m #[Value.ref b] below meth c H locs c1 s1 Q (F0 m 1453 ls [])) (V : lV D y s H locs ad w) (hl : lv_has ls 9 [(4, .int (nI (7 * k))), (0, .ref b), (1, .ref (ad 203)), (2, .ref (ad 42)), (3, .ref (ad 204))]) : W p l e room_1 s m #[Value.ref b] below meth c H locs cells slots Q (F0 m 878 ls []) := by
  obtain ⟨hx, hb, hml, hown, hts, hX, hbl, Z, ZN, hL⟩ := id C0
  rw [s_steal] at hf
  obtain ⟨q1, hq1, hf⟩ := bd_s hf
  obtain ⟨q2, hq2, hf⟩ := bd_s hf
  obtain ⟨q3, hq3, hf⟩ := bd_s hf
  obtain ⟨he3, hf⟩ := gd_s hf
  refine lv_aload_n hx hb dL_law_878 rfl (lv_at hl 2 rfl) ?_
  refine lv_aload_n hx hb dL_law_879 rfl (lv_at hl 1 rfl) ?_
  refine lv_iload hx hb dL_law_880 (lv_at hl 0 rfl) ?_
  refine lv_iconst (v := 1) hx hb dL_law_882 (by decide) ?_
  refine lv_iadd hx hb dL_law_883 ?_
  refine l_sld C0 V (j := 1) ha hk (nI_add (7 * k) 1) (by decide) dL_law_884 ?_
  refine lv_aload_n hx hb dL_law_885 rfl (lv_at hl 1 rfl) ?_
  refine lv_iload hx hb dL_law_886 (lv_at hl 0 rfl) ?_
  refine lv_iconst (v := 2) hx hb dL_law_888 (by decide) ?_
  refine lv_iadd hx hb dL_law_889 ?_
  refine l_sld C0 V (j := 2) ha hk (nI_add (7 * k) 2) (by decide) dL_law_890 ?_
  refine lv_aload_n hx hb dL_law_891 rfl (lv_at hl 1 rfl) ?_
  refine lv_iload hx hb dL_law_892 (lv_at hl 0 rfl) ?_
  refine lv_iconst (v := 3) hx hb dL_law_894 (by decide) ?_
  refine lv_iadd hx hb dL_law_895 ?_
  refine l_sld C0 V (j := 3) ha hk (nI_add (7 * k) 3) (by decide) dL_law_896 ?_
  refine lv_aload_n hx hb dL_law_897 rfl (lv_at hl 4 rfl) ?_
  refine kWH (As := [.ref (ad 203), .int (a 1), .int (a 2), .int (a 3), .ref (ad 204)]) (rest := []) ⟨hx, hb, hml, hown, hts⟩ Z rfl V (c_L_steal (l := l) (D := D) (y := y) (ad := fun k => ad (43 + k)) hstk hq1) (vx_cwSW 5 hts gL_law_L_steal rfl rfl rfl (by decide +kernel) ⟨Nat.le_of_ble_eq_true rfl, Nat.le_of_ble_eq_true rfl⟩) rfl hl.1 rfl (Nat.le_of_ble_eq_true rfl) ⟨show cells + 1 ≤ 601024 by omega, show slots + 6 ≤ 7293034 by omega⟩ rfl dL_law_898 (fun H locs V => ?_)
  refine lv_istore (lv' := [(5, .int q1.1), (4, .int (nI (7 * k))), (0, .ref b), (1, .ref (ad 203)), (2, .ref (ad 42)), (3, .ref (ad 204))]) hx hb dL_law_901 hl (by decide) rfl (fun ls hl => ?_)
  refine lv_aload_n hx hb dL_law_903 rfl (lv_at hl 4 rfl) ?_
  refine lv_aload_n hx hb dL_law_904 rfl (lv_at hl 2 rfl) ?_
  refine lv_iload hx hb dL_law_905 (lv_at hl 1 rfl) ?_
  refine lv_iconst (v := 1) hx hb dL_law_907 (by decide) ?_
  refine lv_iadd hx hb dL_law_908 ?_
  refine l_sld C0 V (j := 1) ha hk (nI_add (7 * k) 1) (by decide) dL_law_909 ?_
  refine lv_aload_n hx hb dL_law_910 rfl (lv_at hl 2 rfl) ?_
  refine lv_iload hx hb dL_law_911 (lv_at hl 1 rfl) ?_
  refine lv_iconst (v := 2) hx hb dL_law_913 (by decide) ?_
  refine lv_iadd hx hb dL_law_914 ?_
  refine l_sld C0 V (j := 2) ha hk (nI_add (7 * k) 2) (by decide) dL_law_915 ?_
  refine lv_aload_n hx hb dL_law_916 rfl (lv_at hl 2 rfl) ?_
  refine lv_iload hx hb dL_law_917 (lv_at hl 1 rfl) ?_
  refine lv_iconst (v := 3) hx hb dL_law_919 (by decide) ?_
  refine lv_iadd hx hb dL_law_920 ?_
  refine l_sld C0 V (j := 3) ha hk (nI_add (7 * k) 3) (by decide) dL_law_921 ?_
  refine kWMa (As := [.int (a 1), .int (a 2), .int (a 3)]) (rest := []) ⟨hx, hb, hml, hown, hts⟩ ZN V (c_X7_steal (l := l) (D := D) (y := y) (ad := ad) hq2) (cwV 3 hts gL_law_X7_steal rfl rfl rfl (by decide +kernel) ⟨Nat.le_of_ble_eq_true rfl, Nat.le_of_ble_eq_true rfl⟩) (by omega) ((mW_0 (by omega)).trans (mM_m y ad _ _ _)) rfl rfl hl.1 rfl (Nat.le_of_ble_eq_true rfl) ⟨show cells + 1 + 0 ≤ 601024 by omega, show slots + 6 + 0 ≤ 7293034 by omega⟩ rfl dL_law_922 (fun H locs V => ?_)
  refine lv_istore (lv' := [(6, .int q2.1), (5, .int q1.1), (4, .int (nI (7 * k))), (0, .ref b), (1, .ref (ad 203)), (2, .ref (ad 42)), (3, .ref (ad 204))]) hx hb dL_law_925 hl (by decide) rfl (fun ls hl => ?_)
  refine lv_aload_n hx hb dL_law_927 rfl (lv_at hl 5 rfl) ?_
  refine kWMa (As := []) (rest := []) ⟨hx, hb, hml, hown, hts⟩ ZN V (c_X7_thrown (l := l) (D := D) (y := y) (ad := ad) hq3) (cwV 0 hts gL_law_X7_thrown rfl rfl rfl (by decide +kernel) ⟨Nat.le_of_ble_eq_true rfl, Nat.le_of_ble_eq_true rfl⟩) (by omega) ((mW_0 (by omega)).trans (mM_m y ad _ _ _)) rfl rfl hl.1 rfl (Nat.le_of_ble_eq_true rfl) ⟨show cells + 1 + 0 + 0 ≤ 601024 by omega, show slots + 6 + 0 + 0 ≤ 7293034 by omega⟩ rfl dL_law_928 (fun H locs V => ?_)
  refine lv_iload hx hb dL_law_931 (lv_at hl 1 rfl) ?_
  refine lv_icmp_eq (tgt := 938) hx hb dL_law_933 (by decide) (fun _ => ?_) (fun h => absurd he3 h)
  refine lv_iload hx hb dL_law_938 (lv_at hl 1 rfl) ?_
  refine lv_if_ne (tgt := 955) hx hb dL_law_940 (by decide) (fun h0 => ?_) (fun h0 => ?_)
  · replace hf := ite_f h0 hf
    obtain rfl := Option.some.inj hf
    refine lv_goto (tgt := 1453) hx hb dL_law_955 (by decide) ?_
    exact kk _ _ _ _ _ (by omega) (by omega) V (lv_sub hl [2, 3, 4, 5, 6] rfl)
  · replace hf := ite_t h0 hf
    obtain ⟨hv, hf⟩ := gd_s hf
    obtain rfl := Option.some.inj hf
    refine lv_aload_n hx hb dL_law_943 rfl (lv_at hl 6 rfl) ?_
    refine lv_iconst (v := 0) hx hb dL_law_944 (by decide) ?_
    refine oW_ld hx hb V (by decide +kernel) dL_law_945 ?_
    refine lv_iload hx hb dL_law_946 (lv_at hl 0 rfl) ?_
    refine lv_i2l hx hb dL_law_948 rfl ?_
    refine l_lcmp hx hb hv dL_law_949 ?_
    refine lv_if_eq (tgt := 955) hx hb dL_law_950 (by decide) (fun _ => ?_) (fun h => absurd rfl h)
    refine lv_goto (tgt := 1453) hx hb dL_law_955 (by decide) ?_
    exact kk _ _ _ _ _ (by omega) (by omega) V (lv_sub hl [2, 3, 4, 5, 6] rfl)
def s_end (N : Nat) (a : Nat → Int32) (w : lW) : Option lW := (f_L_end N w.σ w.τ w.o (a 1) (a 2)).bind fun q1 => (f_X7_end N w.th w.ρ w.α (a 1) (a 2)).bind fun q2 => (f_X7_thrown N q2.2.1 q2.2.2.1 q2.2.2.2).bind fun q3 => if q3.1 = q1.1 then (if q1.1 = 0 then (if q1.2.2.2 (0 : Int32).toNatClampNeg = q2.1.toInt64 then some ⟨q3.2.1, q3.2.2.1, q3.2.2.2, q1.2.1, q1.2.2.1, q1.2.2.2⟩ else none) else some ⟨q3.2.1, q3.2.2.1, q3.2.2.2, q1.2.1, q1.2.2.1, q1.2.2.2⟩) else none
set_option maxHeartbeats 4000000 in
set_option maxRecDepth 100000 in
theorem l_end {p : Program} {l : Launch} {e : Env} {s : State} {m : MethodId} {below : List Frame} {meth : Method} {c : Code} {H : Heap} {locs : List Loc} {cells slots : Nat} {Q : State → Prop} {ls : Array Slot} {D : va_G} {y : Nat → ClassId} {ad : Nat → Nat} {b L : Nat} {xs : Nat → Int32} {N k : Nat} {a : Nat → Int32} {w w' : lW} (hstk : l.stackTraces = false) (C0 : lEnv p s m meth c b L xs) (ha : ∀ j, a j = xs (7 * k + j)) (hk : 7 * k + 7 ≤ L) (hce : cells + 140 ≤ 601024) (hsl : slots + 800 ≤ 7293034) (hf : s_end N a w = some w') (kk : ∀ (H : Heap) (locs : List Loc) (ls : Array Slot) (c1 s1 : Nat), c1 ≤ cells + 140 → s1 ≤ slots + 800 → lV D y s H locs ad w' → lv_has ls 9 [(4, .int (nI (7 * k))), (0, .ref b), (1, .ref (ad 203)), (2, .ref (ad 42)), (3, .ref (ad 204))] → W p l e room_1 s m #[Value.ref b] below meth c H locs c1 s1 Q (F0 m 1453 ls [])) (V : lV D y s H locs ad w) (hl : lv_has ls 9 [(4, .int (nI (7 * k))), (0, .ref b), (1, .ref (ad 203)), (2, .ref (ad 42)), (3, .ref (ad 204))]) : W p l e room_1 s m #[Value.ref b] below meth c H locs cells slots Q (F0 m 958 ls []) := by
  obtain ⟨hx, hb, hml, hown, hts, hX, hbl, Z, ZN, hL⟩ := id C0
  rw [s_end] at hf
  obtain ⟨q1, hq1, hf⟩ := bd_s hf
  obtain ⟨q2, hq2, hf⟩ := bd_s hf
  obtain ⟨q3, hq3, hf⟩ := bd_s hf
  obtain ⟨he3, hf⟩ := gd_s hf
  refine lv_aload_n hx hb dL_law_958 rfl (lv_at hl 2 rfl) ?_
  refine lv_aload_n hx hb dL_law_959 rfl (lv_at hl 1 rfl) ?_
  refine lv_iload hx hb dL_law_960 (lv_at hl 0 rfl) ?_
  refine lv_iconst (v := 1) hx hb dL_law_962 (by decide) ?_
  refine lv_iadd hx hb dL_law_963 ?_
  refine l_sld C0 V (j := 1) ha hk (nI_add (7 * k) 1) (by decide) dL_law_964 ?_
  refine lv_aload_n hx hb dL_law_965 rfl (lv_at hl 1 rfl) ?_
  refine lv_iload hx hb dL_law_966 (lv_at hl 0 rfl) ?_
  refine lv_iconst (v := 2) hx hb dL_law_968 (by decide) ?_
  refine lv_iadd hx hb dL_law_969 ?_
  refine l_sld C0 V (j := 2) ha hk (nI_add (7 * k) 2) (by decide) dL_law_970 ?_
  refine lv_aload_n hx hb dL_law_971 rfl (lv_at hl 4 rfl) ?_
  refine kWH (As := [.ref (ad 203), .int (a 1), .int (a 2), .ref (ad 204)]) (rest := []) ⟨hx, hb, hml, hown, hts⟩ Z rfl V (c_L_end (l := l) (D := D) (y := y) (ad := fun k => ad (43 + k)) hstk hq1) (vx_cwSW 4 hts gL_law_L_end rfl rfl rfl (by decide +kernel) ⟨Nat.le_of_ble_eq_true rfl, Nat.le_of_ble_eq_true rfl⟩) rfl hl.1 rfl (Nat.le_of_ble_eq_true rfl) ⟨show cells + 1 ≤ 601024 by omega, show slots + 6 ≤ 7293034 by omega⟩ rfl dL_law_972 (fun H locs V => ?_)
  refine lv_istore (lv' := [(5, .int q1.1), (4, .int (nI (7 * k))), (0, .ref b), (1, .ref (ad 203)), (2, .ref (ad 42)), (3, .ref (ad 204))]) hx hb dL_law_975 hl (by decide) rfl (fun ls hl => ?_)
  refine lv_aload_n hx hb dL_law_977 rfl (lv_at hl 4 rfl) ?_
  refine lv_aload_n hx hb dL_law_978 rfl (lv_at hl 2 rfl) ?_
  refine lv_iload hx hb dL_law_979 (lv_at hl 1 rfl) ?_
  refine lv_iconst (v := 1) hx hb dL_law_981 (by decide) ?_
  refine lv_iadd hx hb dL_law_982 ?_
  refine l_sld C0 V (j := 1) ha hk (nI_add (7 * k) 1) (by decide) dL_law_983 ?_
  refine lv_aload_n hx hb dL_law_984 rfl (lv_at hl 2 rfl) ?_
  refine lv_iload hx hb dL_law_985 (lv_at hl 1 rfl) ?_
  refine lv_iconst (v := 2) hx hb dL_law_987 (by decide) ?_
  refine lv_iadd hx hb dL_law_988 ?_
  refine l_sld C0 V (j := 2) ha hk (nI_add (7 * k) 2) (by decide) dL_law_989 ?_
  refine kWMa (As := [.int (a 1), .int (a 2)]) (rest := []) ⟨hx, hb, hml, hown, hts⟩ ZN V (c_X7_end (l := l) (D := D) (y := y) (ad := ad) hq2) (cwV 2 hts gL_law_X7_end rfl rfl rfl (by decide +kernel) ⟨Nat.le_of_ble_eq_true rfl, Nat.le_of_ble_eq_true rfl⟩) (by omega) ((mW_0 (by omega)).trans (mM_m y ad _ _ _)) rfl rfl hl.1 rfl (Nat.le_of_ble_eq_true rfl) ⟨show cells + 1 + 0 ≤ 601024 by omega, show slots + 6 + 0 ≤ 7293034 by omega⟩ rfl dL_law_990 (fun H locs V => ?_)
  refine lv_istore (lv' := [(6, .int q2.1), (5, .int q1.1), (4, .int (nI (7 * k))), (0, .ref b), (1, .ref (ad 203)), (2, .ref (ad 42)), (3, .ref (ad 204))]) hx hb dL_law_993 hl (by decide) rfl (fun ls hl => ?_)
  refine lv_aload_n hx hb dL_law_995 rfl (lv_at hl 5 rfl) ?_
  refine kWMa (As := []) (rest := []) ⟨hx, hb, hml, hown, hts⟩ ZN V (c_X7_thrown (l := l) (D := D) (y := y) (ad := ad) hq3) (cwV 0 hts gL_law_X7_thrown rfl rfl rfl (by decide +kernel) ⟨Nat.le_of_ble_eq_true rfl, Nat.le_of_ble_eq_true rfl⟩) (by omega) ((mW_0 (by omega)).trans (mM_m y ad _ _ _)) rfl rfl hl.1 rfl (Nat.le_of_ble_eq_true rfl) ⟨show cells + 1 + 0 + 0 ≤ 601024 by omega, show slots + 6 + 0 + 0 ≤ 7293034 by omega⟩ rfl dL_law_996 (fun H locs V => ?_)
  refine lv_iload hx hb dL_law_999 (lv_at hl 1 rfl) ?_
  refine lv_icmp_eq (tgt := 1006) hx hb dL_law_1001 (by decide) (fun _ => ?_) (fun h => absurd he3 h)
  refine lv_iload hx hb dL_law_1006 (lv_at hl 1 rfl) ?_
  refine lv_if_ne (tgt := 1023) hx hb dL_law_1008 (by decide) (fun h0 => ?_) (fun h0 => ?_)
  · replace hf := ite_f h0 hf
    obtain rfl := Option.some.inj hf
    refine lv_goto (tgt := 1453) hx hb dL_law_1023 (by decide) ?_
    exact kk _ _ _ _ _ (by omega) (by omega) V (lv_sub hl [2, 3, 4, 5, 6] rfl)
  · replace hf := ite_t h0 hf
    obtain ⟨hv, hf⟩ := gd_s hf
    obtain rfl := Option.some.inj hf
    refine lv_aload_n hx hb dL_law_1011 rfl (lv_at hl 6 rfl) ?_
    refine lv_iconst (v := 0) hx hb dL_law_1012 (by decide) ?_
    refine oW_ld hx hb V (by decide +kernel) dL_law_1013 ?_
    refine lv_iload hx hb dL_law_1014 (lv_at hl 0 rfl) ?_
    refine lv_i2l hx hb dL_law_1016 rfl ?_
    refine l_lcmp hx hb hv dL_law_1017 ?_
    refine lv_if_eq (tgt := 1023) hx hb dL_law_1018 (by decide) (fun _ => ?_) (fun h => absurd rfl h)
    refine lv_goto (tgt := 1453) hx hb dL_law_1023 (by decide) ?_
    exact kk _ _ _ _ _ (by omega) (by omega) V (lv_sub hl [2, 3, 4, 5, 6] rfl)
def s_game (N : Nat) (a : Nat → Int32) (w : lW) : Option lW := (f_L_game N w.σ w.τ w.o (a 1) (a 2)).bind fun q1 => (f_X7_game N w.th w.ρ w.α (a 1) (a 2)).bind fun q2 => (f_X7_thrown N q2.2.1 q2.2.2.1 q2.2.2.2).bind fun q3 => if q3.1 = q1.1 then (if q1.1 = 0 then (if q1.2.2.2 (0 : Int32).toNatClampNeg = q2.1.toInt64 then some ⟨q3.2.1, q3.2.2.1, q3.2.2.2, q1.2.1, q1.2.2.1, q1.2.2.2⟩ else none) else some ⟨q3.2.1, q3.2.2.1, q3.2.2.2, q1.2.1, q1.2.2.1, q1.2.2.2⟩) else none
set_option maxHeartbeats 4000000 in
set_option maxRecDepth 100000 in
theorem l_game {p : Program} {l : Launch} {e : Env} {s : State} {m : MethodId} {below : List Frame} {meth : Method} {c : Code} {H : Heap} {locs : List Loc} {cells slots : Nat} {Q : State → Prop} {ls : Array Slot} {D : va_G} {y : Nat → ClassId} {ad : Nat → Nat} {b L : Nat} {xs : Nat → Int32} {N k : Nat} {a : Nat → Int32} {w w' : lW} (hstk : l.stackTraces = false) (C0 : lEnv p s m meth c b L xs) (ha : ∀ j, a j = xs (7 * k + j)) (hk : 7 * k + 7 ≤ L) (hce : cells + 140 ≤ 601024) (hsl : slots + 800 ≤ 7293034) (hf : s_game N a w = some w') (kk : ∀ (H : Heap) (locs : List Loc) (ls : Array Slot) (c1 s1 : Nat), c1 ≤ cells + 140 → s1 ≤ slots + 800 → lV D y s H locs ad w' → lv_has ls 9 [(4, .int (nI (7 * k))), (0, .ref b), (1, .ref (ad 203)), (2, .ref (ad 42)), (3, .ref (ad 204))] → W p l e room_1 s m #[Value.ref b] below meth c H locs c1 s1 Q (F0 m 1453 ls [])) (V : lV D y s H locs ad w) (hl : lv_has ls 9 [(4, .int (nI (7 * k))), (0, .ref b), (1, .ref (ad 203)), (2, .ref (ad 42)), (3, .ref (ad 204))]) : W p l e room_1 s m #[Value.ref b] below meth c H locs cells slots Q (F0 m 1026 ls []) := by
  obtain ⟨hx, hb, hml, hown, hts, hX, hbl, Z, ZN, hL⟩ := id C0
  rw [s_game] at hf
  obtain ⟨q1, hq1, hf⟩ := bd_s hf
  obtain ⟨q2, hq2, hf⟩ := bd_s hf
  obtain ⟨q3, hq3, hf⟩ := bd_s hf
  obtain ⟨he3, hf⟩ := gd_s hf
  refine lv_aload_n hx hb dL_law_1026 rfl (lv_at hl 2 rfl) ?_
  refine lv_aload_n hx hb dL_law_1027 rfl (lv_at hl 1 rfl) ?_
  refine lv_iload hx hb dL_law_1028 (lv_at hl 0 rfl) ?_
  refine lv_iconst (v := 1) hx hb dL_law_1030 (by decide) ?_
  refine lv_iadd hx hb dL_law_1031 ?_
  refine l_sld C0 V (j := 1) ha hk (nI_add (7 * k) 1) (by decide) dL_law_1032 ?_
  refine lv_aload_n hx hb dL_law_1033 rfl (lv_at hl 1 rfl) ?_
  refine lv_iload hx hb dL_law_1034 (lv_at hl 0 rfl) ?_
  refine lv_iconst (v := 2) hx hb dL_law_1036 (by decide) ?_
  refine lv_iadd hx hb dL_law_1037 ?_
  refine l_sld C0 V (j := 2) ha hk (nI_add (7 * k) 2) (by decide) dL_law_1038 ?_
  refine lv_aload_n hx hb dL_law_1039 rfl (lv_at hl 4 rfl) ?_
  refine kWH (As := [.ref (ad 203), .int (a 1), .int (a 2), .ref (ad 204)]) (rest := []) ⟨hx, hb, hml, hown, hts⟩ Z rfl V (c_L_game (l := l) (D := D) (y := y) (ad := fun k => ad (43 + k)) hstk hq1) (vx_cwSW 4 hts gL_law_L_game rfl rfl rfl (by decide +kernel) ⟨Nat.le_of_ble_eq_true rfl, Nat.le_of_ble_eq_true rfl⟩) rfl hl.1 rfl (Nat.le_of_ble_eq_true rfl) ⟨show cells + 1 ≤ 601024 by omega, show slots + 6 ≤ 7293034 by omega⟩ rfl dL_law_1040 (fun H locs V => ?_)
  refine lv_istore (lv' := [(5, .int q1.1), (4, .int (nI (7 * k))), (0, .ref b), (1, .ref (ad 203)), (2, .ref (ad 42)), (3, .ref (ad 204))]) hx hb dL_law_1043 hl (by decide) rfl (fun ls hl => ?_)
  refine lv_aload_n hx hb dL_law_1045 rfl (lv_at hl 4 rfl) ?_
  refine lv_aload_n hx hb dL_law_1046 rfl (lv_at hl 2 rfl) ?_
  refine lv_iload hx hb dL_law_1047 (lv_at hl 1 rfl) ?_
  refine lv_iconst (v := 1) hx hb dL_law_1049 (by decide) ?_
  refine lv_iadd hx hb dL_law_1050 ?_
  refine l_sld C0 V (j := 1) ha hk (nI_add (7 * k) 1) (by decide) dL_law_1051 ?_
  refine lv_aload_n hx hb dL_law_1052 rfl (lv_at hl 2 rfl) ?_
  refine lv_iload hx hb dL_law_1053 (lv_at hl 1 rfl) ?_
  refine lv_iconst (v := 2) hx hb dL_law_1055 (by decide) ?_
  refine lv_iadd hx hb dL_law_1056 ?_
  refine l_sld C0 V (j := 2) ha hk (nI_add (7 * k) 2) (by decide) dL_law_1057 ?_
  refine kWMa (As := [.int (a 1), .int (a 2)]) (rest := []) ⟨hx, hb, hml, hown, hts⟩ ZN V (c_X7_game (l := l) (D := D) (y := y) (ad := ad) hq2) (cwV 2 hts gL_law_X7_game rfl rfl rfl (by decide +kernel) ⟨Nat.le_of_ble_eq_true rfl, Nat.le_of_ble_eq_true rfl⟩) (by omega) ((mW_0 (by omega)).trans (mM_m y ad _ _ _)) rfl rfl hl.1 rfl (Nat.le_of_ble_eq_true rfl) ⟨show cells + 1 + 0 ≤ 601024 by omega, show slots + 6 + 0 ≤ 7293034 by omega⟩ rfl dL_law_1058 (fun H locs V => ?_)
  refine lv_istore (lv' := [(6, .int q2.1), (5, .int q1.1), (4, .int (nI (7 * k))), (0, .ref b), (1, .ref (ad 203)), (2, .ref (ad 42)), (3, .ref (ad 204))]) hx hb dL_law_1061 hl (by decide) rfl (fun ls hl => ?_)
  refine lv_aload_n hx hb dL_law_1063 rfl (lv_at hl 5 rfl) ?_
  refine kWMa (As := []) (rest := []) ⟨hx, hb, hml, hown, hts⟩ ZN V (c_X7_thrown (l := l) (D := D) (y := y) (ad := ad) hq3) (cwV 0 hts gL_law_X7_thrown rfl rfl rfl (by decide +kernel) ⟨Nat.le_of_ble_eq_true rfl, Nat.le_of_ble_eq_true rfl⟩) (by omega) ((mW_0 (by omega)).trans (mM_m y ad _ _ _)) rfl rfl hl.1 rfl (Nat.le_of_ble_eq_true rfl) ⟨show cells + 1 + 0 + 0 ≤ 601024 by omega, show slots + 6 + 0 + 0 ≤ 7293034 by omega⟩ rfl dL_law_1064 (fun H locs V => ?_)
  refine lv_iload hx hb dL_law_1067 (lv_at hl 1 rfl) ?_
  refine lv_icmp_eq (tgt := 1074) hx hb dL_law_1069 (by decide) (fun _ => ?_) (fun h => absurd he3 h)
  refine lv_iload hx hb dL_law_1074 (lv_at hl 1 rfl) ?_
  refine lv_if_ne (tgt := 1091) hx hb dL_law_1076 (by decide) (fun h0 => ?_) (fun h0 => ?_)
  · replace hf := ite_f h0 hf
    obtain rfl := Option.some.inj hf
    refine lv_goto (tgt := 1453) hx hb dL_law_1091 (by decide) ?_
    exact kk _ _ _ _ _ (by omega) (by omega) V (lv_sub hl [2, 3, 4, 5, 6] rfl)
  · replace hf := ite_t h0 hf
    obtain ⟨hv, hf⟩ := gd_s hf
    obtain rfl := Option.some.inj hf
    refine lv_aload_n hx hb dL_law_1079 rfl (lv_at hl 6 rfl) ?_
    refine lv_iconst (v := 0) hx hb dL_law_1080 (by decide) ?_
    refine oW_ld hx hb V (by decide +kernel) dL_law_1081 ?_
    refine lv_iload hx hb dL_law_1082 (lv_at hl 0 rfl) ?_
    refine lv_i2l hx hb dL_law_1084 rfl ?_
    refine l_lcmp hx hb hv dL_law_1085 ?_
    refine lv_if_eq (tgt := 1091) hx hb dL_law_1086 (by decide) (fun _ => ?_) (fun h => absurd rfl h)
    refine lv_goto (tgt := 1453) hx hb dL_law_1091 (by decide) ?_
    exact kk _ _ _ _ _ (by omega) (by omega) V (lv_sub hl [2, 3, 4, 5, 6] rfl)
def s_pass (N : Nat) (a : Nat → Int32) (w : lW) : Option lW := (f_L_pass N w.σ w.τ w.o (a 1)).bind fun q1 => (f_X7_pass N w.th w.ρ w.α (a 1)).bind fun q2 => (f_X7_thrown N q2.2.1 q2.2.2.1 q2.2.2.2).bind fun q3 => if q3.1 = q1.1 then (if q1.1 = 0 then (if q1.2.2.2 (0 : Int32).toNatClampNeg = q2.1.toInt64 then some ⟨q3.2.1, q3.2.2.1, q3.2.2.2, q1.2.1, q1.2.2.1, q1.2.2.2⟩ else none) else some ⟨q3.2.1, q3.2.2.1, q3.2.2.2, q1.2.1, q1.2.2.1, q1.2.2.2⟩) else none
set_option maxHeartbeats 4000000 in
set_option maxRecDepth 100000 in
theorem l_pass {p : Program} {l : Launch} {e : Env} {s : State} {m : MethodId} {below : List Frame} {meth : Method} {c : Code} {H : Heap} {locs : List Loc} {cells slots : Nat} {Q : State → Prop} {ls : Array Slot} {D : va_G} {y : Nat → ClassId} {ad : Nat → Nat} {b L : Nat} {xs : Nat → Int32} {N k : Nat} {a : Nat → Int32} {w w' : lW} (hstk : l.stackTraces = false) (C0 : lEnv p s m meth c b L xs) (ha : ∀ j, a j = xs (7 * k + j)) (hk : 7 * k + 7 ≤ L) (hce : cells + 140 ≤ 601024) (hsl : slots + 800 ≤ 7293034) (hf : s_pass N a w = some w') (kk : ∀ (H : Heap) (locs : List Loc) (ls : Array Slot) (c1 s1 : Nat), c1 ≤ cells + 140 → s1 ≤ slots + 800 → lV D y s H locs ad w' → lv_has ls 9 [(4, .int (nI (7 * k))), (0, .ref b), (1, .ref (ad 203)), (2, .ref (ad 42)), (3, .ref (ad 204))] → W p l e room_1 s m #[Value.ref b] below meth c H locs c1 s1 Q (F0 m 1453 ls [])) (V : lV D y s H locs ad w) (hl : lv_has ls 9 [(4, .int (nI (7 * k))), (0, .ref b), (1, .ref (ad 203)), (2, .ref (ad 42)), (3, .ref (ad 204))]) : W p l e room_1 s m #[Value.ref b] below meth c H locs cells slots Q (F0 m 1094 ls []) := by
  obtain ⟨hx, hb, hml, hown, hts, hX, hbl, Z, ZN, hL⟩ := id C0
  rw [s_pass] at hf
  obtain ⟨q1, hq1, hf⟩ := bd_s hf
  obtain ⟨q2, hq2, hf⟩ := bd_s hf
  obtain ⟨q3, hq3, hf⟩ := bd_s hf
  obtain ⟨he3, hf⟩ := gd_s hf
  refine lv_aload_n hx hb dL_law_1094 rfl (lv_at hl 2 rfl) ?_
  refine lv_aload_n hx hb dL_law_1095 rfl (lv_at hl 1 rfl) ?_
  refine lv_iload hx hb dL_law_1096 (lv_at hl 0 rfl) ?_
  refine lv_iconst (v := 1) hx hb dL_law_1098 (by decide) ?_
  refine lv_iadd hx hb dL_law_1099 ?_
  refine l_sld C0 V (j := 1) ha hk (nI_add (7 * k) 1) (by decide) dL_law_1100 ?_
  refine lv_aload_n hx hb dL_law_1101 rfl (lv_at hl 4 rfl) ?_
  refine kWH (As := [.ref (ad 203), .int (a 1), .ref (ad 204)]) (rest := []) ⟨hx, hb, hml, hown, hts⟩ Z rfl V (c_L_pass (l := l) (D := D) (y := y) (ad := fun k => ad (43 + k)) hstk hq1) (vx_cwSW 3 hts gL_law_L_pass rfl rfl rfl (by decide +kernel) ⟨Nat.le_of_ble_eq_true rfl, Nat.le_of_ble_eq_true rfl⟩) rfl hl.1 rfl (Nat.le_of_ble_eq_true rfl) ⟨show cells + 1 ≤ 601024 by omega, show slots + 6 ≤ 7293034 by omega⟩ rfl dL_law_1102 (fun H locs V => ?_)
  refine lv_istore (lv' := [(5, .int q1.1), (4, .int (nI (7 * k))), (0, .ref b), (1, .ref (ad 203)), (2, .ref (ad 42)), (3, .ref (ad 204))]) hx hb dL_law_1105 hl (by decide) rfl (fun ls hl => ?_)
  refine lv_aload_n hx hb dL_law_1107 rfl (lv_at hl 4 rfl) ?_
  refine lv_aload_n hx hb dL_law_1108 rfl (lv_at hl 2 rfl) ?_
  refine lv_iload hx hb dL_law_1109 (lv_at hl 1 rfl) ?_
  refine lv_iconst (v := 1) hx hb dL_law_1111 (by decide) ?_
  refine lv_iadd hx hb dL_law_1112 ?_
  refine l_sld C0 V (j := 1) ha hk (nI_add (7 * k) 1) (by decide) dL_law_1113 ?_
  refine kWMa (As := [.int (a 1)]) (rest := []) ⟨hx, hb, hml, hown, hts⟩ ZN V (c_X7_pass (l := l) (D := D) (y := y) (ad := ad) hq2) (cwV 1 hts gL_law_X7_pass rfl rfl rfl (by decide +kernel) ⟨Nat.le_of_ble_eq_true rfl, Nat.le_of_ble_eq_true rfl⟩) (by omega) ((mW_0 (by omega)).trans (mM_m y ad _ _ _)) rfl rfl hl.1 rfl (Nat.le_of_ble_eq_true rfl) ⟨show cells + 1 + 0 ≤ 601024 by omega, show slots + 6 + 0 ≤ 7293034 by omega⟩ rfl dL_law_1114 (fun H locs V => ?_)
  refine lv_istore (lv' := [(6, .int q2.1), (5, .int q1.1), (4, .int (nI (7 * k))), (0, .ref b), (1, .ref (ad 203)), (2, .ref (ad 42)), (3, .ref (ad 204))]) hx hb dL_law_1117 hl (by decide) rfl (fun ls hl => ?_)
  refine lv_aload_n hx hb dL_law_1119 rfl (lv_at hl 5 rfl) ?_
  refine kWMa (As := []) (rest := []) ⟨hx, hb, hml, hown, hts⟩ ZN V (c_X7_thrown (l := l) (D := D) (y := y) (ad := ad) hq3) (cwV 0 hts gL_law_X7_thrown rfl rfl rfl (by decide +kernel) ⟨Nat.le_of_ble_eq_true rfl, Nat.le_of_ble_eq_true rfl⟩) (by omega) ((mW_0 (by omega)).trans (mM_m y ad _ _ _)) rfl rfl hl.1 rfl (Nat.le_of_ble_eq_true rfl) ⟨show cells + 1 + 0 + 0 ≤ 601024 by omega, show slots + 6 + 0 + 0 ≤ 7293034 by omega⟩ rfl dL_law_1120 (fun H locs V => ?_)
  refine lv_iload hx hb dL_law_1123 (lv_at hl 1 rfl) ?_
  refine lv_icmp_eq (tgt := 1130) hx hb dL_law_1125 (by decide) (fun _ => ?_) (fun h => absurd he3 h)
  refine lv_iload hx hb dL_law_1130 (lv_at hl 1 rfl) ?_
  refine lv_if_ne (tgt := 1147) hx hb dL_law_1132 (by decide) (fun h0 => ?_) (fun h0 => ?_)
  · replace hf := ite_f h0 hf
    obtain rfl := Option.some.inj hf
    refine lv_goto (tgt := 1453) hx hb dL_law_1147 (by decide) ?_
    exact kk _ _ _ _ _ (by omega) (by omega) V (lv_sub hl [2, 3, 4, 5, 6] rfl)
  · replace hf := ite_t h0 hf
    obtain ⟨hv, hf⟩ := gd_s hf
    obtain rfl := Option.some.inj hf
    refine lv_aload_n hx hb dL_law_1135 rfl (lv_at hl 6 rfl) ?_
    refine lv_iconst (v := 0) hx hb dL_law_1136 (by decide) ?_
    refine oW_ld hx hb V (by decide +kernel) dL_law_1137 ?_
    refine lv_iload hx hb dL_law_1138 (lv_at hl 0 rfl) ?_
    refine lv_i2l hx hb dL_law_1140 rfl ?_
    refine l_lcmp hx hb hv dL_law_1141 ?_
    refine lv_if_eq (tgt := 1147) hx hb dL_law_1142 (by decide) (fun _ => ?_) (fun h => absurd rfl h)
    refine lv_goto (tgt := 1453) hx hb dL_law_1147 (by decide) ?_
    exact kk _ _ _ _ _ (by omega) (by omega) V (lv_sub hl [2, 3, 4, 5, 6] rfl)
def s_count (N : Nat) (a : Nat → Int32) (w : lW) : Option lW := (f_L_count N w.σ w.τ w.o (a 1)).bind fun q1 => (f_X7_count N w.th w.ρ w.α (a 1)).bind fun q2 => (f_X7_thrown N q2.2.1 q2.2.2.1 q2.2.2.2).bind fun q3 => if q3.1 = q1.1 then (if q1.1 = 0 then (if q1.2.2.2 (0 : Int32).toNatClampNeg = q2.1.toInt64 then some ⟨q3.2.1, q3.2.2.1, q3.2.2.2, q1.2.1, q1.2.2.1, q1.2.2.2⟩ else none) else some ⟨q3.2.1, q3.2.2.1, q3.2.2.2, q1.2.1, q1.2.2.1, q1.2.2.2⟩) else none
set_option maxHeartbeats 4000000 in
set_option maxRecDepth 100000 in
theorem l_count {p : Program} {l : Launch} {e : Env} {s : State} {m : MethodId} {below : List Frame} {meth : Method} {c : Code} {H : Heap} {locs : List Loc} {cells slots : Nat} {Q : State → Prop} {ls : Array Slot} {D : va_G} {y : Nat → ClassId} {ad : Nat → Nat} {b L : Nat} {xs : Nat → Int32} {N k : Nat} {a : Nat → Int32} {w w' : lW} (hstk : l.stackTraces = false) (C0 : lEnv p s m meth c b L xs) (ha : ∀ j, a j = xs (7 * k + j)) (hk : 7 * k + 7 ≤ L) (hce : cells + 140 ≤ 601024) (hsl : slots + 800 ≤ 7293034) (hf : s_count N a w = some w') (kk : ∀ (H : Heap) (locs : List Loc) (ls : Array Slot) (c1 s1 : Nat), c1 ≤ cells + 140 → s1 ≤ slots + 800 → lV D y s H locs ad w' → lv_has ls 9 [(4, .int (nI (7 * k))), (0, .ref b), (1, .ref (ad 203)), (2, .ref (ad 42)), (3, .ref (ad 204))] → W p l e room_1 s m #[Value.ref b] below meth c H locs c1 s1 Q (F0 m 1453 ls [])) (V : lV D y s H locs ad w) (hl : lv_has ls 9 [(4, .int (nI (7 * k))), (0, .ref b), (1, .ref (ad 203)), (2, .ref (ad 42)), (3, .ref (ad 204))]) : W p l e room_1 s m #[Value.ref b] below meth c H locs cells slots Q (F0 m 1150 ls []) := by
  obtain ⟨hx, hb, hml, hown, hts, hX, hbl, Z, ZN, hL⟩ := id C0
  rw [s_count] at hf
  obtain ⟨q1, hq1, hf⟩ := bd_s hf
  obtain ⟨q2, hq2, hf⟩ := bd_s hf
  obtain ⟨q3, hq3, hf⟩ := bd_s hf
  obtain ⟨he3, hf⟩ := gd_s hf
  refine lv_aload_n hx hb dL_law_1150 rfl (lv_at hl 2 rfl) ?_
  refine lv_aload_n hx hb dL_law_1151 rfl (lv_at hl 1 rfl) ?_
  refine lv_iload hx hb dL_law_1152 (lv_at hl 0 rfl) ?_
  refine lv_iconst (v := 1) hx hb dL_law_1154 (by decide) ?_
  refine lv_iadd hx hb dL_law_1155 ?_
  refine l_sld C0 V (j := 1) ha hk (nI_add (7 * k) 1) (by decide) dL_law_1156 ?_
  refine lv_aload_n hx hb dL_law_1157 rfl (lv_at hl 4 rfl) ?_
  refine kWH (As := [.ref (ad 203), .int (a 1), .ref (ad 204)]) (rest := []) ⟨hx, hb, hml, hown, hts⟩ Z rfl V (c_L_count (l := l) (D := D) (y := y) (ad := fun k => ad (43 + k)) hstk hq1) (vx_cwSW 3 hts gL_law_L_count rfl rfl rfl (by decide +kernel) ⟨Nat.le_of_ble_eq_true rfl, Nat.le_of_ble_eq_true rfl⟩) rfl hl.1 rfl (Nat.le_of_ble_eq_true rfl) ⟨show cells + 1 ≤ 601024 by omega, show slots + 6 ≤ 7293034 by omega⟩ rfl dL_law_1158 (fun H locs V => ?_)
  refine lv_istore (lv' := [(5, .int q1.1), (4, .int (nI (7 * k))), (0, .ref b), (1, .ref (ad 203)), (2, .ref (ad 42)), (3, .ref (ad 204))]) hx hb dL_law_1161 hl (by decide) rfl (fun ls hl => ?_)
  refine lv_aload_n hx hb dL_law_1163 rfl (lv_at hl 4 rfl) ?_
  refine lv_aload_n hx hb dL_law_1164 rfl (lv_at hl 2 rfl) ?_
  refine lv_iload hx hb dL_law_1165 (lv_at hl 1 rfl) ?_
  refine lv_iconst (v := 1) hx hb dL_law_1167 (by decide) ?_
  refine lv_iadd hx hb dL_law_1168 ?_
  refine l_sld C0 V (j := 1) ha hk (nI_add (7 * k) 1) (by decide) dL_law_1169 ?_
  refine kWMa (As := [.int (a 1)]) (rest := []) ⟨hx, hb, hml, hown, hts⟩ ZN V (c_X7_count (l := l) (D := D) (y := y) (ad := ad) hq2) (cwV 1 hts gL_law_X7_count rfl rfl rfl (by decide +kernel) ⟨Nat.le_of_ble_eq_true rfl, Nat.le_of_ble_eq_true rfl⟩) (by omega) ((mW_0 (by omega)).trans (mM_m y ad _ _ _)) rfl rfl hl.1 rfl (Nat.le_of_ble_eq_true rfl) ⟨show cells + 1 + 1 ≤ 601024 by omega, show slots + 6 + 11 ≤ 7293034 by omega⟩ rfl dL_law_1170 (fun H locs V => ?_)
  refine lv_istore (lv' := [(6, .int q2.1), (5, .int q1.1), (4, .int (nI (7 * k))), (0, .ref b), (1, .ref (ad 203)), (2, .ref (ad 42)), (3, .ref (ad 204))]) hx hb dL_law_1173 hl (by decide) rfl (fun ls hl => ?_)
  refine lv_aload_n hx hb dL_law_1175 rfl (lv_at hl 5 rfl) ?_
  refine kWMa (As := []) (rest := []) ⟨hx, hb, hml, hown, hts⟩ ZN V (c_X7_thrown (l := l) (D := D) (y := y) (ad := ad) hq3) (cwV 0 hts gL_law_X7_thrown rfl rfl rfl (by decide +kernel) ⟨Nat.le_of_ble_eq_true rfl, Nat.le_of_ble_eq_true rfl⟩) (by omega) ((mW_0 (by omega)).trans (mM_m y ad _ _ _)) rfl rfl hl.1 rfl (Nat.le_of_ble_eq_true rfl) ⟨show cells + 1 + 1 + 0 ≤ 601024 by omega, show slots + 6 + 11 + 0 ≤ 7293034 by omega⟩ rfl dL_law_1176 (fun H locs V => ?_)
  refine lv_iload hx hb dL_law_1179 (lv_at hl 1 rfl) ?_
  refine lv_icmp_eq (tgt := 1186) hx hb dL_law_1181 (by decide) (fun _ => ?_) (fun h => absurd he3 h)
  refine lv_iload hx hb dL_law_1186 (lv_at hl 1 rfl) ?_
  refine lv_if_ne (tgt := 1203) hx hb dL_law_1188 (by decide) (fun h0 => ?_) (fun h0 => ?_)
  · replace hf := ite_f h0 hf
    obtain rfl := Option.some.inj hf
    refine lv_goto (tgt := 1453) hx hb dL_law_1203 (by decide) ?_
    exact kk _ _ _ _ _ (by omega) (by omega) V (lv_sub hl [2, 3, 4, 5, 6] rfl)
  · replace hf := ite_t h0 hf
    obtain ⟨hv, hf⟩ := gd_s hf
    obtain rfl := Option.some.inj hf
    refine lv_aload_n hx hb dL_law_1191 rfl (lv_at hl 6 rfl) ?_
    refine lv_iconst (v := 0) hx hb dL_law_1192 (by decide) ?_
    refine oW_ld hx hb V (by decide +kernel) dL_law_1193 ?_
    refine lv_iload hx hb dL_law_1194 (lv_at hl 0 rfl) ?_
    refine lv_i2l hx hb dL_law_1196 rfl ?_
    refine l_lcmp hx hb hv dL_law_1197 ?_
    refine lv_if_eq (tgt := 1203) hx hb dL_law_1198 (by decide) (fun _ => ?_) (fun h => absurd rfl h)
    refine lv_goto (tgt := 1453) hx hb dL_law_1203 (by decide) ?_
    exact kk _ _ _ _ _ (by omega) (by omega) V (lv_sub hl [2, 3, 4, 5, 6] rfl)
def s_foresee (N : Nat) (a : Nat → Int32) (w : lW) : Option lW := (f_L_foresee N w.σ w.τ w.o (a 1) (a 2)).bind fun q1 => (f_X7_foresee N w.th w.ρ w.α (a 1) (a 2)).bind fun q2 => (f_X7_thrown N q2.2.1 q2.2.2.1 q2.2.2.2).bind fun q3 => if q3.1 = q1.1 then (if q1.1 = 0 then (if q1.2.2.2 (0 : Int32).toNatClampNeg = q2.1.toInt64 then some ⟨q3.2.1, q3.2.2.1, q3.2.2.2, q1.2.1, q1.2.2.1, q1.2.2.2⟩ else none) else some ⟨q3.2.1, q3.2.2.1, q3.2.2.2, q1.2.1, q1.2.2.1, q1.2.2.2⟩) else none
set_option maxHeartbeats 4000000 in
set_option maxRecDepth 100000 in
theorem l_foresee {p : Program} {l : Launch} {e : Env} {s : State} {m : MethodId} {below : List Frame} {meth : Method} {c : Code} {H : Heap} {locs : List Loc} {cells slots : Nat} {Q : State → Prop} {ls : Array Slot} {D : va_G} {y : Nat → ClassId} {ad : Nat → Nat} {b L : Nat} {xs : Nat → Int32} {N k : Nat} {a : Nat → Int32} {w w' : lW} (hstk : l.stackTraces = false) (C0 : lEnv p s m meth c b L xs) (ha : ∀ j, a j = xs (7 * k + j)) (hk : 7 * k + 7 ≤ L) (hce : cells + 140 ≤ 601024) (hsl : slots + 800 ≤ 7293034) (hf : s_foresee N a w = some w') (kk : ∀ (H : Heap) (locs : List Loc) (ls : Array Slot) (c1 s1 : Nat), c1 ≤ cells + 140 → s1 ≤ slots + 800 → lV D y s H locs ad w' → lv_has ls 9 [(4, .int (nI (7 * k))), (0, .ref b), (1, .ref (ad 203)), (2, .ref (ad 42)), (3, .ref (ad 204))] → W p l e room_1 s m #[Value.ref b] below meth c H locs c1 s1 Q (F0 m 1453 ls [])) (V : lV D y s H locs ad w) (hl : lv_has ls 9 [(4, .int (nI (7 * k))), (0, .ref b), (1, .ref (ad 203)), (2, .ref (ad 42)), (3, .ref (ad 204))]) : W p l e room_1 s m #[Value.ref b] below meth c H locs cells slots Q (F0 m 1206 ls []) := by
  obtain ⟨hx, hb, hml, hown, hts, hX, hbl, Z, ZN, hL⟩ := id C0
  rw [s_foresee] at hf
  obtain ⟨q1, hq1, hf⟩ := bd_s hf
  obtain ⟨q2, hq2, hf⟩ := bd_s hf
  obtain ⟨q3, hq3, hf⟩ := bd_s hf
  obtain ⟨he3, hf⟩ := gd_s hf
  refine lv_aload_n hx hb dL_law_1206 rfl (lv_at hl 2 rfl) ?_
  refine lv_aload_n hx hb dL_law_1207 rfl (lv_at hl 1 rfl) ?_
  refine lv_iload hx hb dL_law_1208 (lv_at hl 0 rfl) ?_
  refine lv_iconst (v := 1) hx hb dL_law_1210 (by decide) ?_
  refine lv_iadd hx hb dL_law_1211 ?_
  refine l_sld C0 V (j := 1) ha hk (nI_add (7 * k) 1) (by decide) dL_law_1212 ?_
  refine lv_aload_n hx hb dL_law_1213 rfl (lv_at hl 1 rfl) ?_
  refine lv_iload hx hb dL_law_1214 (lv_at hl 0 rfl) ?_
  refine lv_iconst (v := 2) hx hb dL_law_1216 (by decide) ?_
  refine lv_iadd hx hb dL_law_1217 ?_
  refine l_sld C0 V (j := 2) ha hk (nI_add (7 * k) 2) (by decide) dL_law_1218 ?_
  refine lv_aload_n hx hb dL_law_1219 rfl (lv_at hl 4 rfl) ?_
  refine kWH (As := [.ref (ad 203), .int (a 1), .int (a 2), .ref (ad 204)]) (rest := []) ⟨hx, hb, hml, hown, hts⟩ Z rfl V (c_L_foresee (l := l) (D := D) (y := y) (ad := fun k => ad (43 + k)) hstk hq1) (vx_cwSW 4 hts gL_law_L_foresee rfl rfl rfl (by decide +kernel) ⟨Nat.le_of_ble_eq_true rfl, Nat.le_of_ble_eq_true rfl⟩) rfl hl.1 rfl (Nat.le_of_ble_eq_true rfl) ⟨show cells + 1 ≤ 601024 by omega, show slots + 6 ≤ 7293034 by omega⟩ rfl dL_law_1220 (fun H locs V => ?_)
  refine lv_istore (lv' := [(5, .int q1.1), (4, .int (nI (7 * k))), (0, .ref b), (1, .ref (ad 203)), (2, .ref (ad 42)), (3, .ref (ad 204))]) hx hb dL_law_1223 hl (by decide) rfl (fun ls hl => ?_)
  refine lv_aload_n hx hb dL_law_1225 rfl (lv_at hl 4 rfl) ?_
  refine lv_aload_n hx hb dL_law_1226 rfl (lv_at hl 2 rfl) ?_
  refine lv_iload hx hb dL_law_1227 (lv_at hl 1 rfl) ?_
  refine lv_iconst (v := 1) hx hb dL_law_1229 (by decide) ?_
  refine lv_iadd hx hb dL_law_1230 ?_
  refine l_sld C0 V (j := 1) ha hk (nI_add (7 * k) 1) (by decide) dL_law_1231 ?_
  refine lv_aload_n hx hb dL_law_1232 rfl (lv_at hl 2 rfl) ?_
  refine lv_iload hx hb dL_law_1233 (lv_at hl 1 rfl) ?_
  refine lv_iconst (v := 2) hx hb dL_law_1235 (by decide) ?_
  refine lv_iadd hx hb dL_law_1236 ?_
  refine l_sld C0 V (j := 2) ha hk (nI_add (7 * k) 2) (by decide) dL_law_1237 ?_
  refine kWMa (As := [.int (a 1), .int (a 2)]) (rest := []) ⟨hx, hb, hml, hown, hts⟩ ZN V (c_X7_foresee (l := l) (D := D) (y := y) (ad := ad) hq2) (cwV 2 hts gL_law_X7_foresee rfl rfl rfl (by decide +kernel) ⟨Nat.le_of_ble_eq_true rfl, Nat.le_of_ble_eq_true rfl⟩) (by omega) ((mW_0 (by omega)).trans (mM_m y ad _ _ _)) rfl rfl hl.1 rfl (Nat.le_of_ble_eq_true rfl) ⟨show cells + 1 + 0 ≤ 601024 by omega, show slots + 6 + 0 ≤ 7293034 by omega⟩ rfl dL_law_1238 (fun H locs V => ?_)
  refine lv_istore (lv' := [(6, .int q2.1), (5, .int q1.1), (4, .int (nI (7 * k))), (0, .ref b), (1, .ref (ad 203)), (2, .ref (ad 42)), (3, .ref (ad 204))]) hx hb dL_law_1241 hl (by decide) rfl (fun ls hl => ?_)
  refine lv_aload_n hx hb dL_law_1243 rfl (lv_at hl 5 rfl) ?_
  refine kWMa (As := []) (rest := []) ⟨hx, hb, hml, hown, hts⟩ ZN V (c_X7_thrown (l := l) (D := D) (y := y) (ad := ad) hq3) (cwV 0 hts gL_law_X7_thrown rfl rfl rfl (by decide +kernel) ⟨Nat.le_of_ble_eq_true rfl, Nat.le_of_ble_eq_true rfl⟩) (by omega) ((mW_0 (by omega)).trans (mM_m y ad _ _ _)) rfl rfl hl.1 rfl (Nat.le_of_ble_eq_true rfl) ⟨show cells + 1 + 0 + 0 ≤ 601024 by omega, show slots + 6 + 0 + 0 ≤ 7293034 by omega⟩ rfl dL_law_1244 (fun H locs V => ?_)
  refine lv_iload hx hb dL_law_1247 (lv_at hl 1 rfl) ?_
  refine lv_icmp_eq (tgt := 1254) hx hb dL_law_1249 (by decide) (fun _ => ?_) (fun h => absurd he3 h)
  refine lv_iload hx hb dL_law_1254 (lv_at hl 1 rfl) ?_
  refine lv_if_ne (tgt := 1271) hx hb dL_law_1256 (by decide) (fun h0 => ?_) (fun h0 => ?_)
  · replace hf := ite_f h0 hf
    obtain rfl := Option.some.inj hf
    refine lv_goto (tgt := 1453) hx hb dL_law_1271 (by decide) ?_
    exact kk _ _ _ _ _ (by omega) (by omega) V (lv_sub hl [2, 3, 4, 5, 6] rfl)
  · replace hf := ite_t h0 hf
    obtain ⟨hv, hf⟩ := gd_s hf
    obtain rfl := Option.some.inj hf
    refine lv_aload_n hx hb dL_law_1259 rfl (lv_at hl 6 rfl) ?_
    refine lv_iconst (v := 0) hx hb dL_law_1260 (by decide) ?_
    refine oW_ld hx hb V (by decide +kernel) dL_law_1261 ?_
    refine lv_iload hx hb dL_law_1262 (lv_at hl 0 rfl) ?_
    refine lv_i2l hx hb dL_law_1264 rfl ?_
    refine l_lcmp hx hb hv dL_law_1265 ?_
    refine lv_if_eq (tgt := 1271) hx hb dL_law_1266 (by decide) (fun _ => ?_) (fun h => absurd rfl h)
    refine lv_goto (tgt := 1453) hx hb dL_law_1271 (by decide) ?_
    exact kk _ _ _ _ _ (by omega) (by omega) V (lv_sub hl [2, 3, 4, 5, 6] rfl)
def s_leader (N : Nat) (a : Nat → Int32) (w : lW) : Option lW := (f_L_leader N w.σ w.τ w.o (a 1)).bind fun q1 => (f_X7_leader N w.th w.ρ w.α (a 1)).bind fun q2 => (f_X7_thrown N q2.2.1 q2.2.2.1 q2.2.2.2).bind fun q3 => if q3.1 = q1.1 then (if q1.1 = 0 then (if q1.2.2.2 (0 : Int32).toNatClampNeg = q2.1.toInt64 then some ⟨q3.2.1, q3.2.2.1, q3.2.2.2, q1.2.1, q1.2.2.1, q1.2.2.2⟩ else none) else some ⟨q3.2.1, q3.2.2.1, q3.2.2.2, q1.2.1, q1.2.2.1, q1.2.2.2⟩) else none
set_option maxHeartbeats 4000000 in
set_option maxRecDepth 100000 in
theorem l_leader {p : Program} {l : Launch} {e : Env} {s : State} {m : MethodId} {below : List Frame} {meth : Method} {c : Code} {H : Heap} {locs : List Loc} {cells slots : Nat} {Q : State → Prop} {ls : Array Slot} {D : va_G} {y : Nat → ClassId} {ad : Nat → Nat} {b L : Nat} {xs : Nat → Int32} {N k : Nat} {a : Nat → Int32} {w w' : lW} (hstk : l.stackTraces = false) (C0 : lEnv p s m meth c b L xs) (ha : ∀ j, a j = xs (7 * k + j)) (hk : 7 * k + 7 ≤ L) (hce : cells + 140 ≤ 601024) (hsl : slots + 800 ≤ 7293034) (hf : s_leader N a w = some w') (kk : ∀ (H : Heap) (locs : List Loc) (ls : Array Slot) (c1 s1 : Nat), c1 ≤ cells + 140 → s1 ≤ slots + 800 → lV D y s H locs ad w' → lv_has ls 9 [(4, .int (nI (7 * k))), (0, .ref b), (1, .ref (ad 203)), (2, .ref (ad 42)), (3, .ref (ad 204))] → W p l e room_1 s m #[Value.ref b] below meth c H locs c1 s1 Q (F0 m 1453 ls [])) (V : lV D y s H locs ad w) (hl : lv_has ls 9 [(4, .int (nI (7 * k))), (0, .ref b), (1, .ref (ad 203)), (2, .ref (ad 42)), (3, .ref (ad 204))]) : W p l e room_1 s m #[Value.ref b] below meth c H locs cells slots Q (F0 m 1274 ls []) := by
  obtain ⟨hx, hb, hml, hown, hts, hX, hbl, Z, ZN, hL⟩ := id C0
  rw [s_leader] at hf
  obtain ⟨q1, hq1, hf⟩ := bd_s hf
  obtain ⟨q2, hq2, hf⟩ := bd_s hf
  obtain ⟨q3, hq3, hf⟩ := bd_s hf
  obtain ⟨he3, hf⟩ := gd_s hf
  refine lv_aload_n hx hb dL_law_1274 rfl (lv_at hl 2 rfl) ?_
  refine lv_aload_n hx hb dL_law_1275 rfl (lv_at hl 1 rfl) ?_
  refine lv_iload hx hb dL_law_1276 (lv_at hl 0 rfl) ?_
  refine lv_iconst (v := 1) hx hb dL_law_1278 (by decide) ?_
  refine lv_iadd hx hb dL_law_1279 ?_
  refine l_sld C0 V (j := 1) ha hk (nI_add (7 * k) 1) (by decide) dL_law_1280 ?_
  refine lv_aload_n hx hb dL_law_1281 rfl (lv_at hl 4 rfl) ?_
  refine kWH (As := [.ref (ad 203), .int (a 1), .ref (ad 204)]) (rest := []) ⟨hx, hb, hml, hown, hts⟩ Z rfl V (c_L_leader (l := l) (D := D) (y := y) (ad := fun k => ad (43 + k)) hstk hq1) (vx_cwSW 3 hts gL_law_L_leader rfl rfl rfl (by decide +kernel) ⟨Nat.le_of_ble_eq_true rfl, Nat.le_of_ble_eq_true rfl⟩) rfl hl.1 rfl (Nat.le_of_ble_eq_true rfl) ⟨show cells + 1 ≤ 601024 by omega, show slots + 6 ≤ 7293034 by omega⟩ rfl dL_law_1282 (fun H locs V => ?_)
  refine lv_istore (lv' := [(5, .int q1.1), (4, .int (nI (7 * k))), (0, .ref b), (1, .ref (ad 203)), (2, .ref (ad 42)), (3, .ref (ad 204))]) hx hb dL_law_1285 hl (by decide) rfl (fun ls hl => ?_)
  refine lv_aload_n hx hb dL_law_1287 rfl (lv_at hl 4 rfl) ?_
  refine lv_aload_n hx hb dL_law_1288 rfl (lv_at hl 2 rfl) ?_
  refine lv_iload hx hb dL_law_1289 (lv_at hl 1 rfl) ?_
  refine lv_iconst (v := 1) hx hb dL_law_1291 (by decide) ?_
  refine lv_iadd hx hb dL_law_1292 ?_
  refine l_sld C0 V (j := 1) ha hk (nI_add (7 * k) 1) (by decide) dL_law_1293 ?_
  refine kWMa (As := [.int (a 1)]) (rest := []) ⟨hx, hb, hml, hown, hts⟩ ZN V (c_X7_leader (l := l) (D := D) (y := y) (ad := ad) hq2) (cwV 1 hts gL_law_X7_leader rfl rfl rfl (by decide +kernel) ⟨Nat.le_of_ble_eq_true rfl, Nat.le_of_ble_eq_true rfl⟩) (by omega) ((mW_0 (by omega)).trans (mM_m y ad _ _ _)) rfl rfl hl.1 rfl (Nat.le_of_ble_eq_true rfl) ⟨show cells + 1 + 0 ≤ 601024 by omega, show slots + 6 + 0 ≤ 7293034 by omega⟩ rfl dL_law_1294 (fun H locs V => ?_)
  refine lv_istore (lv' := [(6, .int q2.1), (5, .int q1.1), (4, .int (nI (7 * k))), (0, .ref b), (1, .ref (ad 203)), (2, .ref (ad 42)), (3, .ref (ad 204))]) hx hb dL_law_1297 hl (by decide) rfl (fun ls hl => ?_)
  refine lv_aload_n hx hb dL_law_1299 rfl (lv_at hl 5 rfl) ?_
  refine kWMa (As := []) (rest := []) ⟨hx, hb, hml, hown, hts⟩ ZN V (c_X7_thrown (l := l) (D := D) (y := y) (ad := ad) hq3) (cwV 0 hts gL_law_X7_thrown rfl rfl rfl (by decide +kernel) ⟨Nat.le_of_ble_eq_true rfl, Nat.le_of_ble_eq_true rfl⟩) (by omega) ((mW_0 (by omega)).trans (mM_m y ad _ _ _)) rfl rfl hl.1 rfl (Nat.le_of_ble_eq_true rfl) ⟨show cells + 1 + 0 + 0 ≤ 601024 by omega, show slots + 6 + 0 + 0 ≤ 7293034 by omega⟩ rfl dL_law_1300 (fun H locs V => ?_)
  refine lv_iload hx hb dL_law_1303 (lv_at hl 1 rfl) ?_
  refine lv_icmp_eq (tgt := 1310) hx hb dL_law_1305 (by decide) (fun _ => ?_) (fun h => absurd he3 h)
  refine lv_iload hx hb dL_law_1310 (lv_at hl 1 rfl) ?_
  refine lv_if_ne (tgt := 1327) hx hb dL_law_1312 (by decide) (fun h0 => ?_) (fun h0 => ?_)
  · replace hf := ite_f h0 hf
    obtain rfl := Option.some.inj hf
    refine lv_goto (tgt := 1453) hx hb dL_law_1327 (by decide) ?_
    exact kk _ _ _ _ _ (by omega) (by omega) V (lv_sub hl [2, 3, 4, 5, 6] rfl)
  · replace hf := ite_t h0 hf
    obtain ⟨hv, hf⟩ := gd_s hf
    obtain rfl := Option.some.inj hf
    refine lv_aload_n hx hb dL_law_1315 rfl (lv_at hl 6 rfl) ?_
    refine lv_iconst (v := 0) hx hb dL_law_1316 (by decide) ?_
    refine oW_ld hx hb V (by decide +kernel) dL_law_1317 ?_
    refine lv_iload hx hb dL_law_1318 (lv_at hl 0 rfl) ?_
    refine lv_i2l hx hb dL_law_1320 rfl ?_
    refine l_lcmp hx hb hv dL_law_1321 ?_
    refine lv_if_eq (tgt := 1327) hx hb dL_law_1322 (by decide) (fun _ => ?_) (fun h => absurd rfl h)
    refine lv_goto (tgt := 1453) hx hb dL_law_1327 (by decide) ?_
    exact kk _ _ _ _ _ (by omega) (by omega) V (lv_sub hl [2, 3, 4, 5, 6] rfl)
def s_needs (N : Nat) (a : Nat → Int32) (w : lW) : Option lW := (f_L_needs N w.σ w.τ w.o (a 1) (a 2)).bind fun q1 => (f_X7_needs N w.th w.ρ w.α (a 1) (a 2)).bind fun q2 => (f_X7_thrown N q2.2.1 q2.2.2.1 q2.2.2.2).bind fun q3 => if q3.1 = q1.1 then (if q1.1 = 0 then (if q1.2.2.2 (0 : Int32).toNatClampNeg = q2.1.toInt64 then some ⟨q3.2.1, q3.2.2.1, q3.2.2.2, q1.2.1, q1.2.2.1, q1.2.2.2⟩ else none) else some ⟨q3.2.1, q3.2.2.1, q3.2.2.2, q1.2.1, q1.2.2.1, q1.2.2.2⟩) else none
set_option maxHeartbeats 4000000 in
set_option maxRecDepth 100000 in
theorem l_needs {p : Program} {l : Launch} {e : Env} {s : State} {m : MethodId} {below : List Frame} {meth : Method} {c : Code} {H : Heap} {locs : List Loc} {cells slots : Nat} {Q : State → Prop} {ls : Array Slot} {D : va_G} {y : Nat → ClassId} {ad : Nat → Nat} {b L : Nat} {xs : Nat → Int32} {N k : Nat} {a : Nat → Int32} {w w' : lW} (hstk : l.stackTraces = false) (C0 : lEnv p s m meth c b L xs) (ha : ∀ j, a j = xs (7 * k + j)) (hk : 7 * k + 7 ≤ L) (hce : cells + 140 ≤ 601024) (hsl : slots + 800 ≤ 7293034) (hf : s_needs N a w = some w') (kk : ∀ (H : Heap) (locs : List Loc) (ls : Array Slot) (c1 s1 : Nat), c1 ≤ cells + 140 → s1 ≤ slots + 800 → lV D y s H locs ad w' → lv_has ls 9 [(4, .int (nI (7 * k))), (0, .ref b), (1, .ref (ad 203)), (2, .ref (ad 42)), (3, .ref (ad 204))] → W p l e room_1 s m #[Value.ref b] below meth c H locs c1 s1 Q (F0 m 1453 ls [])) (V : lV D y s H locs ad w) (hl : lv_has ls 9 [(4, .int (nI (7 * k))), (0, .ref b), (1, .ref (ad 203)), (2, .ref (ad 42)), (3, .ref (ad 204))]) : W p l e room_1 s m #[Value.ref b] below meth c H locs cells slots Q (F0 m 1330 ls []) := by
  obtain ⟨hx, hb, hml, hown, hts, hX, hbl, Z, ZN, hL⟩ := id C0
  rw [s_needs] at hf
  obtain ⟨q1, hq1, hf⟩ := bd_s hf
  obtain ⟨q2, hq2, hf⟩ := bd_s hf
  obtain ⟨q3, hq3, hf⟩ := bd_s hf
  obtain ⟨he3, hf⟩ := gd_s hf
  refine lv_aload_n hx hb dL_law_1330 rfl (lv_at hl 2 rfl) ?_
  refine lv_aload_n hx hb dL_law_1331 rfl (lv_at hl 1 rfl) ?_
  refine lv_iload hx hb dL_law_1332 (lv_at hl 0 rfl) ?_
  refine lv_iconst (v := 1) hx hb dL_law_1334 (by decide) ?_
  refine lv_iadd hx hb dL_law_1335 ?_
  refine l_sld C0 V (j := 1) ha hk (nI_add (7 * k) 1) (by decide) dL_law_1336 ?_
  refine lv_aload_n hx hb dL_law_1337 rfl (lv_at hl 1 rfl) ?_
  refine lv_iload hx hb dL_law_1338 (lv_at hl 0 rfl) ?_
  refine lv_iconst (v := 2) hx hb dL_law_1340 (by decide) ?_
  refine lv_iadd hx hb dL_law_1341 ?_
  refine l_sld C0 V (j := 2) ha hk (nI_add (7 * k) 2) (by decide) dL_law_1342 ?_
  refine lv_aload_n hx hb dL_law_1343 rfl (lv_at hl 4 rfl) ?_
  refine kWH (As := [.ref (ad 203), .int (a 1), .int (a 2), .ref (ad 204)]) (rest := []) ⟨hx, hb, hml, hown, hts⟩ Z rfl V (c_L_needs (l := l) (D := D) (y := y) (ad := fun k => ad (43 + k)) hstk hq1) (vx_cwSW 4 hts gL_law_L_needs rfl rfl rfl (by decide +kernel) ⟨Nat.le_of_ble_eq_true rfl, Nat.le_of_ble_eq_true rfl⟩) rfl hl.1 rfl (Nat.le_of_ble_eq_true rfl) ⟨show cells + 1 ≤ 601024 by omega, show slots + 6 ≤ 7293034 by omega⟩ rfl dL_law_1344 (fun H locs V => ?_)
  refine lv_istore (lv' := [(5, .int q1.1), (4, .int (nI (7 * k))), (0, .ref b), (1, .ref (ad 203)), (2, .ref (ad 42)), (3, .ref (ad 204))]) hx hb dL_law_1347 hl (by decide) rfl (fun ls hl => ?_)
  refine lv_aload_n hx hb dL_law_1349 rfl (lv_at hl 4 rfl) ?_
  refine lv_aload_n hx hb dL_law_1350 rfl (lv_at hl 2 rfl) ?_
  refine lv_iload hx hb dL_law_1351 (lv_at hl 1 rfl) ?_
  refine lv_iconst (v := 1) hx hb dL_law_1353 (by decide) ?_
  refine lv_iadd hx hb dL_law_1354 ?_
  refine l_sld C0 V (j := 1) ha hk (nI_add (7 * k) 1) (by decide) dL_law_1355 ?_
  refine lv_aload_n hx hb dL_law_1356 rfl (lv_at hl 2 rfl) ?_
  refine lv_iload hx hb dL_law_1357 (lv_at hl 1 rfl) ?_
  refine lv_iconst (v := 2) hx hb dL_law_1359 (by decide) ?_
  refine lv_iadd hx hb dL_law_1360 ?_
  refine l_sld C0 V (j := 2) ha hk (nI_add (7 * k) 2) (by decide) dL_law_1361 ?_
  refine kWMa (As := [.int (a 1), .int (a 2)]) (rest := []) ⟨hx, hb, hml, hown, hts⟩ ZN V (c_X7_needs (l := l) (D := D) (y := y) (ad := ad) hq2) (cwV 2 hts gL_law_X7_needs rfl rfl rfl (by decide +kernel) ⟨Nat.le_of_ble_eq_true rfl, Nat.le_of_ble_eq_true rfl⟩) (by omega) ((mW_0 (by omega)).trans (mM_m y ad _ _ _)) rfl rfl hl.1 rfl (Nat.le_of_ble_eq_true rfl) ⟨show cells + 1 + 0 ≤ 601024 by omega, show slots + 6 + 0 ≤ 7293034 by omega⟩ rfl dL_law_1362 (fun H locs V => ?_)
  refine lv_istore (lv' := [(6, .int q2.1), (5, .int q1.1), (4, .int (nI (7 * k))), (0, .ref b), (1, .ref (ad 203)), (2, .ref (ad 42)), (3, .ref (ad 204))]) hx hb dL_law_1365 hl (by decide) rfl (fun ls hl => ?_)
  refine lv_aload_n hx hb dL_law_1367 rfl (lv_at hl 5 rfl) ?_
  refine kWMa (As := []) (rest := []) ⟨hx, hb, hml, hown, hts⟩ ZN V (c_X7_thrown (l := l) (D := D) (y := y) (ad := ad) hq3) (cwV 0 hts gL_law_X7_thrown rfl rfl rfl (by decide +kernel) ⟨Nat.le_of_ble_eq_true rfl, Nat.le_of_ble_eq_true rfl⟩) (by omega) ((mW_0 (by omega)).trans (mM_m y ad _ _ _)) rfl rfl hl.1 rfl (Nat.le_of_ble_eq_true rfl) ⟨show cells + 1 + 0 + 0 ≤ 601024 by omega, show slots + 6 + 0 + 0 ≤ 7293034 by omega⟩ rfl dL_law_1368 (fun H locs V => ?_)
  refine lv_iload hx hb dL_law_1371 (lv_at hl 1 rfl) ?_
  refine lv_icmp_eq (tgt := 1378) hx hb dL_law_1373 (by decide) (fun _ => ?_) (fun h => absurd he3 h)
  refine lv_iload hx hb dL_law_1378 (lv_at hl 1 rfl) ?_
  refine lv_if_ne (tgt := 1395) hx hb dL_law_1380 (by decide) (fun h0 => ?_) (fun h0 => ?_)
  · replace hf := ite_f h0 hf
    obtain rfl := Option.some.inj hf
    refine lv_goto (tgt := 1453) hx hb dL_law_1395 (by decide) ?_
    exact kk _ _ _ _ _ (by omega) (by omega) V (lv_sub hl [2, 3, 4, 5, 6] rfl)
  · replace hf := ite_t h0 hf
    obtain ⟨hv, hf⟩ := gd_s hf
    obtain rfl := Option.some.inj hf
    refine lv_aload_n hx hb dL_law_1383 rfl (lv_at hl 6 rfl) ?_
    refine lv_iconst (v := 0) hx hb dL_law_1384 (by decide) ?_
    refine oW_ld hx hb V (by decide +kernel) dL_law_1385 ?_
    refine lv_iload hx hb dL_law_1386 (lv_at hl 0 rfl) ?_
    refine lv_i2l hx hb dL_law_1388 rfl ?_
    refine l_lcmp hx hb hv dL_law_1389 ?_
    refine lv_if_eq (tgt := 1395) hx hb dL_law_1390 (by decide) (fun _ => ?_) (fun h => absurd rfl h)
    refine lv_goto (tgt := 1453) hx hb dL_law_1395 (by decide) ?_
    exact kk _ _ _ _ _ (by omega) (by omega) V (lv_sub hl [2, 3, 4, 5, 6] rfl)
def s_mean (N : Nat) (w : lW) : Option lW := (f_X5_mean N w.σ w.τ).bind fun q1 => (f_X7_mean N w.th w.ρ w.α).bind fun q2 => if FP.dcmp q1.1 q2.1 = some .eq then some ⟨q2.2.1, q2.2.2.1, q2.2.2.2, q1.2.1, q1.2.2, w.o⟩ else none
set_option maxHeartbeats 4000000 in
set_option maxRecDepth 100000 in
theorem l_mean {p : Program} {l : Launch} {e : Env} {s : State} {m : MethodId} {below : List Frame} {meth : Method} {c : Code} {H : Heap} {locs : List Loc} {cells slots : Nat} {Q : State → Prop} {ls : Array Slot} {D : va_G} {y : Nat → ClassId} {ad : Nat → Nat} {b L : Nat} {xs : Nat → Int32} {N k : Nat} {a : Nat → Int32} {w w' : lW} (hstk : l.stackTraces = false) (C0 : lEnv p s m meth c b L xs) (ha : ∀ j, a j = xs (7 * k + j)) (hk : 7 * k + 7 ≤ L) (hce : cells + 140 ≤ 601024) (hsl : slots + 800 ≤ 7293034) (hf : s_mean N w = some w') (kk : ∀ (H : Heap) (locs : List Loc) (ls : Array Slot) (c1 s1 : Nat), c1 ≤ cells + 140 → s1 ≤ slots + 800 → lV D y s H locs ad w' → lv_has ls 9 [(4, .int (nI (7 * k))), (0, .ref b), (1, .ref (ad 203)), (2, .ref (ad 42)), (3, .ref (ad 204))] → W p l e room_1 s m #[Value.ref b] below meth c H locs c1 s1 Q (F0 m 1453 ls [])) (V : lV D y s H locs ad w) (hl : lv_has ls 9 [(4, .int (nI (7 * k))), (0, .ref b), (1, .ref (ad 203)), (2, .ref (ad 42)), (3, .ref (ad 204))]) : W p l e room_1 s m #[Value.ref b] below meth c H locs cells slots Q (F0 m 1398 ls []) := by
  obtain ⟨hx, hb, hml, hown, hts, hX, hbl, Z, ZN, hL⟩ := id C0
  rw [s_mean] at hf
  obtain ⟨q1, hq1, hf⟩ := bd_s hf
  obtain ⟨q2, hq2, hf⟩ := bd_s hf
  obtain ⟨he, hf⟩ := gd_s hf
  obtain rfl := Option.some.inj hf
  refine lv_aload_n hx hb dL_law_1398 rfl (lv_at hl 2 rfl) ?_
  refine kWBa (b := 160) (As := []) (rest := []) ⟨hx, hb, hml, hown, hts⟩ Z.1 V (c_X5_mean (l := l) (D := D) (y := y) (ad := fun k => ad (43 + k)) hstk hq1) (cwV 0 hts gL_law_X5_mean rfl rfl rfl (by decide +kernel) ⟨Nat.le_of_ble_eq_true rfl, Nat.le_of_ble_eq_true rfl⟩) (by omega) ((mW_1 (c := 160)).trans ((mHw_0 (by omega)).trans (mB_b y (fun k => ad (43 + k)) _ _))) rfl rfl hl.1 rfl (Nat.le_of_ble_eq_true rfl) ⟨show cells + 0 ≤ 601024 by omega, show slots + 0 ≤ 7293034 by omega⟩ rfl dL_law_1399 (fun H locs V => ?_)
  refine lv_dstore (lv' := [(5, .double q1.1), (4, .int (nI (7 * k))), (0, .ref b), (1, .ref (ad 203)), (2, .ref (ad 42)), (3, .ref (ad 204))]) hx hb dL_law_1402 hl (by decide) rfl (fun ls hl => ?_)
  refine lv_aload_n hx hb dL_law_1404 rfl (lv_at hl 4 rfl) ?_
  refine kWMa (As := []) (rest := []) ⟨hx, hb, hml, hown, hts⟩ ZN V (c_X7_mean (l := l) (D := D) (y := y) (ad := ad) hq2) (cwV 0 hts gL_law_X7_mean rfl rfl rfl (by decide +kernel) ⟨Nat.le_of_ble_eq_true rfl, Nat.le_of_ble_eq_true rfl⟩) (by omega) ((mW_0 (by omega)).trans (mM_m y ad _ _ _)) rfl rfl hl.1 rfl (Nat.le_of_ble_eq_true rfl) ⟨show cells + 0 + 0 ≤ 601024 by omega, show slots + 0 + 0 ≤ 7293034 by omega⟩ rfl dL_law_1405 (fun H locs V => ?_)
  refine lv_dstore (lv' := [(7, .double q2.1), (5, .double q1.1), (4, .int (nI (7 * k))), (0, .ref b), (1, .ref (ad 203)), (2, .ref (ad 42)), (3, .ref (ad 204))]) hx hb dL_law_1408 hl (by decide) rfl (fun ls hl => ?_)
  refine lv_dload hx hb dL_law_1410 (lv_at hl 1 rfl) ?_
  refine lv_dload hx hb dL_law_1412 (lv_at hl 0 rfl) ?_
  refine lv_dcmp hx hb dL_law_1414 ?_
  rw [he]
  refine lv_if_eq (tgt := 1436) hx hb dL_law_1415 (by decide) (fun _ => ?_) (fun h => absurd rfl h)
  refine lv_goto (tgt := 1453) hx hb dL_law_1436 (by decide) ?_
  exact kk _ _ _ _ _ (by omega) (by omega) V (lv_sub hl [2, 3, 4, 5, 6] rfl)
def s_digest (N : Nat) (w : lW) : Option lW := (f_X5_digest N w.σ w.τ).bind fun q1 => (f_X7_digest N w.th w.ρ w.α).bind fun q2 => if q1.1 = q2.1 then some ⟨q2.2.1, q2.2.2.1, q2.2.2.2, q1.2.1, q1.2.2, w.o⟩ else none
set_option maxHeartbeats 4000000 in
set_option maxRecDepth 100000 in
theorem l_digest {p : Program} {l : Launch} {e : Env} {s : State} {m : MethodId} {below : List Frame} {meth : Method} {c : Code} {H : Heap} {locs : List Loc} {cells slots : Nat} {Q : State → Prop} {ls : Array Slot} {D : va_G} {y : Nat → ClassId} {ad : Nat → Nat} {b L : Nat} {xs : Nat → Int32} {N k : Nat} {a : Nat → Int32} {w w' : lW} (hstk : l.stackTraces = false) (C0 : lEnv p s m meth c b L xs) (ha : ∀ j, a j = xs (7 * k + j)) (hk : 7 * k + 7 ≤ L) (hce : cells + 140 ≤ 601024) (hsl : slots + 800 ≤ 7293034) (hf : s_digest N w = some w') (kk : ∀ (H : Heap) (locs : List Loc) (ls : Array Slot) (c1 s1 : Nat), c1 ≤ cells + 140 → s1 ≤ slots + 800 → lV D y s H locs ad w' → lv_has ls 9 [(4, .int (nI (7 * k))), (0, .ref b), (1, .ref (ad 203)), (2, .ref (ad 42)), (3, .ref (ad 204))] → W p l e room_1 s m #[Value.ref b] below meth c H locs c1 s1 Q (F0 m 1453 ls [])) (V : lV D y s H locs ad w) (hl : lv_has ls 9 [(4, .int (nI (7 * k))), (0, .ref b), (1, .ref (ad 203)), (2, .ref (ad 42)), (3, .ref (ad 204))]) : W p l e room_1 s m #[Value.ref b] below meth c H locs cells slots Q (F0 m 1439 ls []) := by
  obtain ⟨hx, hb, hml, hown, hts, hX, hbl, Z, ZN, hL⟩ := id C0
  rw [s_digest] at hf
  obtain ⟨q1, hq1, hf⟩ := bd_s hf
  obtain ⟨q2, hq2, hf⟩ := bd_s hf
  obtain ⟨he, hf⟩ := gd_s hf
  obtain rfl := Option.some.inj hf
  refine lv_aload_n hx hb dL_law_1439 rfl (lv_at hl 2 rfl) ?_
  refine kWBa (b := 160) (As := []) (rest := []) ⟨hx, hb, hml, hown, hts⟩ Z.1 V (c_X5_digest (l := l) (D := D) (y := y) (ad := fun k => ad (43 + k)) hstk hq1) (cwV 0 hts gL_law_X5_digest rfl rfl rfl (by decide +kernel) ⟨Nat.le_of_ble_eq_true rfl, Nat.le_of_ble_eq_true rfl⟩) (by omega) ((mW_1 (c := 160)).trans ((mHw_0 (by omega)).trans (mB_b y (fun k => ad (43 + k)) _ _))) rfl rfl hl.1 rfl (Nat.le_of_ble_eq_true rfl) ⟨show cells + 0 ≤ 601024 by omega, show slots + 0 ≤ 7293034 by omega⟩ rfl dL_law_1440 (fun H locs V => ?_)
  refine lv_aload_n hx hb dL_law_1443 rfl (lv_at hl 3 rfl) ?_
  refine kWMa (As := []) (rest := [.long q1.1]) ⟨hx, hb, hml, hown, hts⟩ ZN V (c_X7_digest (l := l) (D := D) (y := y) (ad := ad) hq2) (cwV 0 hts gL_law_X7_digest rfl rfl rfl (by decide +kernel) ⟨Nat.le_of_ble_eq_true rfl, Nat.le_of_ble_eq_true rfl⟩) (by omega) ((mW_0 (by omega)).trans (mM_m y ad _ _ _)) rfl rfl hl.1 rfl (Nat.le_of_ble_eq_true rfl) ⟨show cells + 0 + 138 ≤ 601024 by omega, show slots + 0 + 762 ≤ 7293034 by omega⟩ rfl dL_law_1444 (fun H locs V => ?_)
  refine l_lcmp hx hb he dL_law_1447 ?_
  refine lv_if_eq (tgt := 1453) hx hb dL_law_1448 (by decide) (fun _ => ?_) (fun h => absurd rfl h)
  exact kk _ _ _ _ _ (by omega) (by omega) V hl
def f_step (N : Nat) (a : Nat → Int32) (w : lW) : Option lW := if a 0 &&& 31 = 0 then s_addPlayer N a w else if a 0 &&& 31 = 1 then s_player N a w else if a 0 &&& 31 = 2 then s_buy N a w else if a 0 &&& 31 = 3 then s_sell N a w else if a 0 &&& 31 = 4 then s_borrow N a w else if a 0 &&& 31 = 5 then s_repay N a w else if a 0 &&& 31 = 6 then s_loan N a w else if a 0 &&& 31 = 7 then s_begin N a w else if a 0 &&& 31 = 8 then s_press N a w else if a 0 &&& 31 = 9 then s_put N a w else if a 0 &&& 31 = 10 then s_steal N a w else if a 0 &&& 31 = 11 then s_end N a w else if a 0 &&& 31 = 12 then s_game N a w else if a 0 &&& 31 = 13 then s_pass N a w else if a 0 &&& 31 = 14 then s_count N a w else if a 0 &&& 31 = 15 then s_foresee N a w else if a 0 &&& 31 = 16 then s_leader N a w else if a 0 &&& 31 = 17 then s_needs N a w else if a 0 &&& 31 = 18 then s_mean N w else if a 0 &&& 31 = 19 then s_digest N w else some w
theorem l_sw {x : Int32} (h : ∀ j : Nat, j < 20 → ¬ x = nI j) : x.toInt < 0 ∨ 19 < x.toInt := by
  by_cases g : x.toInt < 0
  · exact Or.inl g
  · refine Or.inr ?_
    by_cases g2 : 19 < x.toInt
    · exact g2
    · exact absurd (Int32.toInt_inj.mp (by rw [nI_toInt (by omega)]; omega)) (h x.toInt.toNat (by omega))
theorem l_cond {k L : Nat} (hL : L ≤ 3584) (hk : 7 * k ≤ L) : Int32.ofNat L - 7 < nI (7 * k) ↔ L < 7 * k + 7 := by
  have h1 : (Int32.ofNat L).toInt = L := nI_toInt (by omega)
  have h7 : (7 : Int32).toInt = 7 := by decide
  rw [Int32.lt_iff_toInt_lt, Int32.toInt_sub, h1, h7, nI_toInt (by omega)]
  rw [show ((L : Int) - 7).bmod (2 ^ 32) = (L : Int) - 7 from by
    rw [Int.bmod_def]
    omega]
  omega
set_option maxHeartbeats 4000000 in
set_option maxRecDepth 100000 in
theorem l_step {p : Program} {l : Launch} {e : Env} {s : State} {m : MethodId} {below : List Frame} {meth : Method} {c : Code} {H : Heap} {locs : List Loc} {cells slots : Nat} {Q : State → Prop} {ls : Array Slot} {D : va_G} {y : Nat → ClassId} {ad : Nat → Nat} {b L : Nat} {xs : Nat → Int32} {N k : Nat} {a : Nat → Int32} {w w' : lW} (hstk : l.stackTraces = false) (C0 : lEnv p s m meth c b L xs) (ha : ∀ j, a j = xs (7 * k + j)) (hk : 7 * k + 7 ≤ L) (hce : cells + 140 ≤ 601024) (hsl : slots + 800 ≤ 7293034) (hf : f_step N a w = some w') (kk : ∀ (H : Heap) (locs : List Loc) (ls : Array Slot) (c1 s1 : Nat), c1 ≤ cells + 140 → s1 ≤ slots + 800 → lV D y s H locs ad w' → lv_has ls 9 [(4, .int (nI (7 * k))), (0, .ref b), (1, .ref (ad 203)), (2, .ref (ad 42)), (3, .ref (ad 204))] → W p l e room_1 s m #[Value.ref b] below meth c H locs c1 s1 Q (F0 m 1453 ls [])) (V : lV D y s H locs ad w) (hl : lv_has ls 9 [(4, .int (nI (7 * k))), (0, .ref b), (1, .ref (ad 203)), (2, .ref (ad 42)), (3, .ref (ad 204))]) : W p l e room_1 s m #[Value.ref b] below meth c H locs cells slots Q (F0 m 33 ls []) := by
  obtain ⟨hx, hb, hml, hown, hts, hX, hbl, Z, ZN, hL⟩ := id C0
  rw [f_step] at hf
  refine lv_aload_n hx hb dL_law_33 rfl (lv_at hl 1 rfl) ?_
  refine lv_iload hx hb dL_law_34 (lv_at hl 0 rfl) ?_
  refine l_sld C0 V (j := 0) ha hk rfl (by decide) dL_law_36 ?_
  refine lv_bipush (v := 31) hx hb dL_law_37 (by decide) ?_
  refine lv_iand hx hb dL_law_39 ?_
  generalize a 0 &&& 31 = z at hf ⊢
  by_cases h0 : z = 0
  · subst h0
    replace hf := ite_t rfl hf
    refine lv_tableIn (tgt := 136) hx hb dL_law_40 (by decide) (by decide) rfl (by decide) ?_
    exact l_addPlayer hstk C0 ha hk hce hsl hf kk V hl
  by_cases h1 : z = 1
  · subst h1
    replace hf := ite_f (by decide) hf
    replace hf := ite_t rfl hf
    refine lv_tableIn (tgt := 192) hx hb dL_law_40 (by decide) (by decide) rfl (by decide) ?_
    exact l_player hstk C0 ha hk hce hsl hf kk V hl
  by_cases h2 : z = 2
  · subst h2
    replace hf := ite_f (by decide) hf
    replace hf := ite_f (by decide) hf
    replace hf := ite_t rfl hf
    refine lv_tableIn (tgt := 260) hx hb dL_law_40 (by decide) (by decide) rfl (by decide) ?_
    exact l_buy hstk C0 ha hk hce hsl hf kk V hl
  by_cases h3 : z = 3
  · subst h3
    replace hf := ite_f (by decide) hf
    replace hf := ite_f (by decide) hf
    replace hf := ite_f (by decide) hf
    replace hf := ite_t rfl hf
    refine lv_tableIn (tgt := 328) hx hb dL_law_40 (by decide) (by decide) rfl (by decide) ?_
    exact l_sell hstk C0 ha hk hce hsl hf kk V hl
  by_cases h4 : z = 4
  · subst h4
    replace hf := ite_f (by decide) hf
    replace hf := ite_f (by decide) hf
    replace hf := ite_f (by decide) hf
    replace hf := ite_f (by decide) hf
    replace hf := ite_t rfl hf
    refine lv_tableIn (tgt := 396) hx hb dL_law_40 (by decide) (by decide) rfl (by decide) ?_
    exact l_borrow hstk C0 ha hk hce hsl hf kk V hl
  by_cases h5 : z = 5
  · subst h5
    replace hf := ite_f (by decide) hf
    replace hf := ite_f (by decide) hf
    replace hf := ite_f (by decide) hf
    replace hf := ite_f (by decide) hf
    replace hf := ite_f (by decide) hf
    replace hf := ite_t rfl hf
    refine lv_tableIn (tgt := 488) hx hb dL_law_40 (by decide) (by decide) rfl (by decide) ?_
    exact l_repay hstk C0 ha hk hce hsl hf kk V hl
  by_cases h6 : z = 6
  · subst h6
    replace hf := ite_f (by decide) hf
    replace hf := ite_f (by decide) hf
    replace hf := ite_f (by decide) hf
    replace hf := ite_f (by decide) hf
    replace hf := ite_f (by decide) hf
    replace hf := ite_f (by decide) hf
    replace hf := ite_t rfl hf
    refine lv_tableIn (tgt := 556) hx hb dL_law_40 (by decide) (by decide) rfl (by decide) ?_
    exact l_loan hstk C0 ha hk hce hsl hf kk V hl
  by_cases h7 : z = 7
  · subst h7
    replace hf := ite_f (by decide) hf
    replace hf := ite_f (by decide) hf
    replace hf := ite_f (by decide) hf
    replace hf := ite_f (by decide) hf
    replace hf := ite_f (by decide) hf
    replace hf := ite_f (by decide) hf
    replace hf := ite_f (by decide) hf
    replace hf := ite_t rfl hf
    refine lv_tableIn (tgt := 624) hx hb dL_law_40 (by decide) (by decide) rfl (by decide) ?_
    exact l_begin hstk C0 ha hk hce hsl hf kk V hl
  by_cases h8 : z = 8
  · subst h8
    replace hf := ite_f (by decide) hf
    replace hf := ite_f (by decide) hf
    replace hf := ite_f (by decide) hf
    replace hf := ite_f (by decide) hf
    replace hf := ite_f (by decide) hf
    replace hf := ite_f (by decide) hf
    replace hf := ite_f (by decide) hf
    replace hf := ite_f (by decide) hf
    replace hf := ite_t rfl hf
    refine lv_tableIn (tgt := 742) hx hb dL_law_40 (by decide) (by decide) rfl (by decide) ?_
    exact l_press hstk C0 ha hk hce hsl hf kk V hl
  by_cases h9 : z = 9
  · subst h9
    replace hf := ite_f (by decide) hf
    replace hf := ite_f (by decide) hf
    replace hf := ite_f (by decide) hf
    replace hf := ite_f (by decide) hf
    replace hf := ite_f (by decide) hf
    replace hf := ite_f (by decide) hf
    replace hf := ite_f (by decide) hf
    replace hf := ite_f (by decide) hf
    replace hf := ite_f (by decide) hf
    replace hf := ite_t rfl hf
    refine lv_tableIn (tgt := 798) hx hb dL_law_40 (by decide) (by decide) rfl (by decide) ?_
    exact l_put hstk C0 ha hk hce hsl hf kk V hl
  by_cases h10 : z = 10
  · subst h10
    replace hf := ite_f (by decide) hf
    replace hf := ite_f (by decide) hf
    replace hf := ite_f (by decide) hf
    replace hf := ite_f (by decide) hf
    replace hf := ite_f (by decide) hf
    replace hf := ite_f (by decide) hf
    replace hf := ite_f (by decide) hf
    replace hf := ite_f (by decide) hf
    replace hf := ite_f (by decide) hf
    replace hf := ite_f (by decide) hf
    replace hf := ite_t rfl hf
    refine lv_tableIn (tgt := 878) hx hb dL_law_40 (by decide) (by decide) rfl (by decide) ?_
    exact l_steal hstk C0 ha hk hce hsl hf kk V hl
  by_cases h11 : z = 11
  · subst h11
    replace hf := ite_f (by decide) hf
    replace hf := ite_f (by decide) hf
    replace hf := ite_f (by decide) hf
    replace hf := ite_f (by decide) hf
    replace hf := ite_f (by decide) hf
    replace hf := ite_f (by decide) hf
    replace hf := ite_f (by decide) hf
    replace hf := ite_f (by decide) hf
    replace hf := ite_f (by decide) hf
    replace hf := ite_f (by decide) hf
    replace hf := ite_f (by decide) hf
    replace hf := ite_t rfl hf
    refine lv_tableIn (tgt := 958) hx hb dL_law_40 (by decide) (by decide) rfl (by decide) ?_
    exact l_end hstk C0 ha hk hce hsl hf kk V hl
  by_cases h12 : z = 12
  · subst h12
    replace hf := ite_f (by decide) hf
    replace hf := ite_f (by decide) hf
    replace hf := ite_f (by decide) hf
    replace hf := ite_f (by decide) hf
    replace hf := ite_f (by decide) hf
    replace hf := ite_f (by decide) hf
    replace hf := ite_f (by decide) hf
    replace hf := ite_f (by decide) hf
    replace hf := ite_f (by decide) hf
    replace hf := ite_f (by decide) hf
    replace hf := ite_f (by decide) hf
    replace hf := ite_f (by decide) hf
    replace hf := ite_t rfl hf
    refine lv_tableIn (tgt := 1026) hx hb dL_law_40 (by decide) (by decide) rfl (by decide) ?_
    exact l_game hstk C0 ha hk hce hsl hf kk V hl
  by_cases h13 : z = 13
  · subst h13
    replace hf := ite_f (by decide) hf
    replace hf := ite_f (by decide) hf
    replace hf := ite_f (by decide) hf
    replace hf := ite_f (by decide) hf
    replace hf := ite_f (by decide) hf
    replace hf := ite_f (by decide) hf
    replace hf := ite_f (by decide) hf
    replace hf := ite_f (by decide) hf
    replace hf := ite_f (by decide) hf
    replace hf := ite_f (by decide) hf
    replace hf := ite_f (by decide) hf
    replace hf := ite_f (by decide) hf
    replace hf := ite_f (by decide) hf
    replace hf := ite_t rfl hf
    refine lv_tableIn (tgt := 1094) hx hb dL_law_40 (by decide) (by decide) rfl (by decide) ?_
    exact l_pass hstk C0 ha hk hce hsl hf kk V hl
  by_cases h14 : z = 14
  · subst h14
    replace hf := ite_f (by decide) hf
    replace hf := ite_f (by decide) hf
    replace hf := ite_f (by decide) hf
    replace hf := ite_f (by decide) hf
    replace hf := ite_f (by decide) hf
    replace hf := ite_f (by decide) hf
    replace hf := ite_f (by decide) hf
    replace hf := ite_f (by decide) hf
    replace hf := ite_f (by decide) hf
    replace hf := ite_f (by decide) hf
    replace hf := ite_f (by decide) hf
    replace hf := ite_f (by decide) hf
    replace hf := ite_f (by decide) hf
    replace hf := ite_f (by decide) hf
    replace hf := ite_t rfl hf
    refine lv_tableIn (tgt := 1150) hx hb dL_law_40 (by decide) (by decide) rfl (by decide) ?_
    exact l_count hstk C0 ha hk hce hsl hf kk V hl
  by_cases h15 : z = 15
  · subst h15
    replace hf := ite_f (by decide) hf
    replace hf := ite_f (by decide) hf
    replace hf := ite_f (by decide) hf
    replace hf := ite_f (by decide) hf
    replace hf := ite_f (by decide) hf
    replace hf := ite_f (by decide) hf
    replace hf := ite_f (by decide) hf
    replace hf := ite_f (by decide) hf
    replace hf := ite_f (by decide) hf
    replace hf := ite_f (by decide) hf
    replace hf := ite_f (by decide) hf
    replace hf := ite_f (by decide) hf
    replace hf := ite_f (by decide) hf
    replace hf := ite_f (by decide) hf
    replace hf := ite_f (by decide) hf
    replace hf := ite_t rfl hf
    refine lv_tableIn (tgt := 1206) hx hb dL_law_40 (by decide) (by decide) rfl (by decide) ?_
    exact l_foresee hstk C0 ha hk hce hsl hf kk V hl
  by_cases h16 : z = 16
  · subst h16
    replace hf := ite_f (by decide) hf
    replace hf := ite_f (by decide) hf
    replace hf := ite_f (by decide) hf
    replace hf := ite_f (by decide) hf
    replace hf := ite_f (by decide) hf
    replace hf := ite_f (by decide) hf
    replace hf := ite_f (by decide) hf
    replace hf := ite_f (by decide) hf
    replace hf := ite_f (by decide) hf
    replace hf := ite_f (by decide) hf
    replace hf := ite_f (by decide) hf
    replace hf := ite_f (by decide) hf
    replace hf := ite_f (by decide) hf
    replace hf := ite_f (by decide) hf
    replace hf := ite_f (by decide) hf
    replace hf := ite_f (by decide) hf
    replace hf := ite_t rfl hf
    refine lv_tableIn (tgt := 1274) hx hb dL_law_40 (by decide) (by decide) rfl (by decide) ?_
    exact l_leader hstk C0 ha hk hce hsl hf kk V hl
  by_cases h17 : z = 17
  · subst h17
    replace hf := ite_f (by decide) hf
    replace hf := ite_f (by decide) hf
    replace hf := ite_f (by decide) hf
    replace hf := ite_f (by decide) hf
    replace hf := ite_f (by decide) hf
    replace hf := ite_f (by decide) hf
    replace hf := ite_f (by decide) hf
    replace hf := ite_f (by decide) hf
    replace hf := ite_f (by decide) hf
    replace hf := ite_f (by decide) hf
    replace hf := ite_f (by decide) hf
    replace hf := ite_f (by decide) hf
    replace hf := ite_f (by decide) hf
    replace hf := ite_f (by decide) hf
    replace hf := ite_f (by decide) hf
    replace hf := ite_f (by decide) hf
    replace hf := ite_f (by decide) hf
    replace hf := ite_t rfl hf
    refine lv_tableIn (tgt := 1330) hx hb dL_law_40 (by decide) (by decide) rfl (by decide) ?_
    exact l_needs hstk C0 ha hk hce hsl hf kk V hl
  by_cases h18 : z = 18
  · subst h18
    replace hf := ite_f (by decide) hf
    replace hf := ite_f (by decide) hf
    replace hf := ite_f (by decide) hf
    replace hf := ite_f (by decide) hf
    replace hf := ite_f (by decide) hf
    replace hf := ite_f (by decide) hf
    replace hf := ite_f (by decide) hf
    replace hf := ite_f (by decide) hf
    replace hf := ite_f (by decide) hf
    replace hf := ite_f (by decide) hf
    replace hf := ite_f (by decide) hf
    replace hf := ite_f (by decide) hf
    replace hf := ite_f (by decide) hf
    replace hf := ite_f (by decide) hf
    replace hf := ite_f (by decide) hf
    replace hf := ite_f (by decide) hf
    replace hf := ite_f (by decide) hf
    replace hf := ite_f (by decide) hf
    replace hf := ite_t rfl hf
    refine lv_tableIn (tgt := 1398) hx hb dL_law_40 (by decide) (by decide) rfl (by decide) ?_
    exact l_mean hstk C0 ha hk hce hsl hf kk V hl
  by_cases h19 : z = 19
  · subst h19
    replace hf := ite_f (by decide) hf
    replace hf := ite_f (by decide) hf
    replace hf := ite_f (by decide) hf
    replace hf := ite_f (by decide) hf
    replace hf := ite_f (by decide) hf
    replace hf := ite_f (by decide) hf
    replace hf := ite_f (by decide) hf
    replace hf := ite_f (by decide) hf
    replace hf := ite_f (by decide) hf
    replace hf := ite_f (by decide) hf
    replace hf := ite_f (by decide) hf
    replace hf := ite_f (by decide) hf
    replace hf := ite_f (by decide) hf
    replace hf := ite_f (by decide) hf
    replace hf := ite_f (by decide) hf
    replace hf := ite_f (by decide) hf
    replace hf := ite_f (by decide) hf
    replace hf := ite_f (by decide) hf
    replace hf := ite_f (by decide) hf
    replace hf := ite_t rfl hf
    refine lv_tableIn (tgt := 1439) hx hb dL_law_40 (by decide) (by decide) rfl (by decide) ?_
    exact l_digest hstk C0 ha hk hce hsl hf kk V hl
  refine lv_tableOut (tgt := 1453) hx hb dL_law_40 (l_sw (fun j hj => ?_)) (by decide) ?_
  · match j, hj with
    | 0, _ => exact h0
    | 1, _ => exact h1
    | 2, _ => exact h2
    | 3, _ => exact h3
    | 4, _ => exact h4
    | 5, _ => exact h5
    | 6, _ => exact h6
    | 7, _ => exact h7
    | 8, _ => exact h8
    | 9, _ => exact h9
    | 10, _ => exact h10
    | 11, _ => exact h11
    | 12, _ => exact h12
    | 13, _ => exact h13
    | 14, _ => exact h14
    | 15, _ => exact h15
    | 16, _ => exact h16
    | 17, _ => exact h17
    | 18, _ => exact h18
    | 19, _ => exact h19
    | j + 20, h => exact absurd h (by omega)
  · replace hf := ite_f h0 hf
    replace hf := ite_f h1 hf
    replace hf := ite_f h2 hf
    replace hf := ite_f h3 hf
    replace hf := ite_f h4 hf
    replace hf := ite_f h5 hf
    replace hf := ite_f h6 hf
    replace hf := ite_f h7 hf
    replace hf := ite_f h8 hf
    replace hf := ite_f h9 hf
    replace hf := ite_f h10 hf
    replace hf := ite_f h11 hf
    replace hf := ite_f h12 hf
    replace hf := ite_f h13 hf
    replace hf := ite_f h14 hf
    replace hf := ite_f h15 hf
    replace hf := ite_f h16 hf
    replace hf := ite_f h17 hf
    replace hf := ite_f h18 hf
    replace hf := ite_f h19 hf
    obtain rfl := Option.some.inj hf
    exact kk _ _ _ _ _ (by omega) (by omega) V hl
set_option maxHeartbeats 4000000 in
set_option maxRecDepth 100000 in
theorem law_loop {p : Program} {l : Launch} {e : Env} {s : State} {m : MethodId} {below : List Frame} {meth : Method} {c : Code} {Q : State → Prop} {D : va_G} {y : Nat → ClassId} {ad : Nat → Nat} {b L : Nat} {xs : Nat → Int32} {N : Nat} (hstk : l.stackTraces = false) (C0 : lEnv p s m meth c b L xs) {Inv : Nat → lW → Prop} (hst : ∀ k w (a : Nat → Int32), k < 512 → Inv k w → ∃ w', f_step N a w = some w' ∧ Inv (k + 1) w')
    (hend : ∀ (H : Heap) (locs : List Loc) (ls : Array Slot) (c1 s1 : Nat) (E : Nat → va_E), c1 ≤ 601024 → s1 ≤ 7293034 → mV D y (fun q => s.heap.size ≤ q) s s.heap H locs 205 ad E → W p l e room_1 s m #[Value.ref b] below meth c H locs c1 s1 Q (F0 m 1459 ls [])) :
    ∀ (n k : Nat) (w : lW), 7 * k ≤ L → L ≤ 7 * (k + n) → Inv k w → ∀ (H : Heap) (locs : List Loc) (ls : Array Slot) (cells slots : Nat), cells + 140 * n ≤ 601024 → slots + 800 * n ≤ 7293034 → lV D y s H locs ad w → lv_has ls 9 [(4, .int (nI (7 * k))), (0, .ref b), (1, .ref (ad 203)), (2, .ref (ad 42)), (3, .ref (ad 204))] → W p l e room_1 s m #[Value.ref b] below meth c H locs cells slots Q (F0 m 23 ls []) := by
  obtain ⟨hx, hb, hml, hown, hts, hX, hbl, Z, ZN, hL⟩ := id C0
  intro n
  induction n with
  | zero =>
    intro k w hk hL2 hI H locs ls cells slots hce hsl V hl
    refine lv_iload hx hb dL_law_23 (lv_at hl 0 rfl) ?_
    refine lv_aload_n hx hb dL_law_25 rfl (lv_at hl 1 rfl) ?_
    refine va_slen hx hb hX hbl (Nat.not_le.mpr hbl) V.2.2.2.1 dL_law_26 ?_
    refine lv_bipush (v := 7) hx hb dL_law_27 (by decide) ?_
    refine lv_isub hx hb dL_law_29 ?_
    refine lv_icmp_gt (tgt := 1459) hx hb dL_law_30 (by decide) (fun hc => ?_) (fun hc => ?_)
    · exact hend H locs ls cells slots _ (by omega) (by omega) V
    · exact absurd ((l_cond hL hk).mpr (by omega)) hc
  | succ n ih =>
    intro k w hk hL2 hI H locs ls cells slots hce hsl V hl
    refine lv_iload hx hb dL_law_23 (lv_at hl 0 rfl) ?_
    refine lv_aload_n hx hb dL_law_25 rfl (lv_at hl 1 rfl) ?_
    refine va_slen hx hb hX hbl (Nat.not_le.mpr hbl) V.2.2.2.1 dL_law_26 ?_
    refine lv_bipush (v := 7) hx hb dL_law_27 (by decide) ?_
    refine lv_isub hx hb dL_law_29 ?_
    refine lv_icmp_gt (tgt := 1459) hx hb dL_law_30 (by decide) (fun hc => ?_) (fun hc => ?_)
    · exact hend H locs ls cells slots _ (by omega) (by omega) V
    · have hk7 : 7 * k + 7 ≤ L := by
        rcases Nat.lt_or_ge L (7 * k + 7) with g | g
        · exact absurd ((l_cond hL hk).mpr g) hc
        · exact g
      obtain ⟨w', hw, hI'⟩ := hst k w (fun j => xs (7 * k + j)) (by omega) hI
      refine l_step hstk C0 (fun j => rfl) hk7 (by omega) (by omega) hw (fun H locs ls c1 s1 hc1 hs1 V hl => ?_) V hl
      refine lv_iinc (v := nI (7 * (k + 1))) (lv' := [(4, .int (nI (7 * (k + 1)))), (0, .ref b), (1, .ref (ad 203)), (2, .ref (ad 42)), (3, .ref (ad 204))]) hx hb dL_law_1453 hl (k := 0) rfl ?_ (by decide) rfl (fun ls hl => ?_)
      · exact nI_add (7 * k) 7
      refine lv_goto (tgt := 23) hx hb dL_law_1456 (by decide) ?_
      exact ih (k + 1) w' (by omega) (by omega) hI' H locs ls c1 s1 (by omega) (by omega) V hl
