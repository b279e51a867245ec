/-! ===== the law's entry (wip/whole/mkstart.py) ===== -/
set_option maxHeartbeats 4000000 in
set_option maxRecDepth 100000 in
theorem ls_str : ∀ q ∈ mStr, Cond.stringRef q.1 q.2.1 q.2.2 ∈ lw_tbl := by decide +kernel
set_option maxHeartbeats 4000000 in
set_option maxRecDepth 100000 in
theorem ls_ex : ∀ q ∈ mStr, Cond.exactly (.string q.1 q.2.1) "java/lang/String" ∈ flatC (Jvm.Cond.and given_1 narrow_1) := by decide +kernel
set_option maxHeartbeats 4000000 in
set_option maxRecDepth 100000 in
theorem ls_zw : ∀ w ∈ mZw, w ∈ lw_tbl := by decide +kernel
set_option maxHeartbeats 4000000 in
set_option maxRecDepth 100000 in
theorem ls_nw : ∀ q ∈ mNw, Cond.fieldLinkNest RX7 q.1 RX6 q.2.1 q.2.2 RX7 ∈ lw_tbl := by decide +kernel
set_option maxHeartbeats 4000000 in
set_option maxRecDepth 100000 in
theorem ls_nm : ∀ q ∈ mNm, Cond.methodLinkNest q.1 q.2.1 q.2.2.1 q.2.2.2 ∈ lw_tbl := by decide +kernel
set_option maxHeartbeats 4000000 in
set_option maxRecDepth 100000 in
theorem ls_nc : ∀ q ∈ mNcp, Cond.not (.castable q.1 q.2) ∈ flatC (Jvm.Cond.and given_1 narrow_1) := by decide +kernel
set_option maxHeartbeats 4000000 in
set_option maxRecDepth 100000 in
theorem ls_lw : ∀ w ∈ mLw, w ∈ lw_tbl := by decide +kernel
set_option maxHeartbeats 4000000 in
set_option maxRecDepth 100000 in
theorem ls_z1 : Cond.laysStatic Bundle.tN "UNASSIGNED_STACK" Bundle.steD ∈ lw_tbl ∧ Cond.initialized Bundle.tN ∈ lw_tbl ∧ Cond.laysStatic Bundle.tN "SUPPRESSED_SENTINEL" Bundle.listD ∈ lw_tbl := by decide +kernel
theorem ls_z2 : Cond.isRef (.static Bundle.tN "UNASSIGNED_STACK" Bundle.steD) ∈ flatC (Jvm.Cond.and given_1 narrow_1) ∧ Cond.isRef (.static Bundle.tN "SUPPRESSED_SENTINEL" Bundle.listD) ∈ flatC (Jvm.Cond.and given_1 narrow_1) := by decide +kernel
set_option maxHeartbeats 4000000 in
set_option maxRecDepth 100000 in
theorem ls_ar : Cond.arrayClass .int ∈ lw_tbl ∧ Cond.arrayClass .long ∈ lw_tbl ∧ Cond.arrayOver (.object "MinuteBank$Game") ∈ lw_tbl ∧ Cond.arrayOver (.object "MinuteBank$Loan") ∈ lw_tbl ∧ Cond.arrayOver (.object "MinuteBank$Player") ∈ lw_tbl := by decide +kernel
set_option maxHeartbeats 4000000 in
set_option maxRecDepth 100000 in
theorem ls_i0 : Cond.instantiable RX0 10 ∈ lw_tbl := by decide +kernel
set_option maxHeartbeats 4000000 in
set_option maxRecDepth 100000 in
theorem ls_i1 : Cond.instantiable RX1 5 ∈ lw_tbl := by decide +kernel
set_option maxHeartbeats 4000000 in
set_option maxRecDepth 100000 in
theorem ls_i2 : Cond.instantiable RX2 5 ∈ lw_tbl := by decide +kernel
set_option maxHeartbeats 4000000 in
set_option maxRecDepth 100000 in
theorem ls_i3 : Cond.instantiable RX3 3 ∈ lw_tbl := by decide +kernel
set_option maxHeartbeats 4000000 in
set_option maxRecDepth 100000 in
theorem ls_i4 : Cond.instantiable RX4 14 ∈ lw_tbl := by decide +kernel
set_option maxHeartbeats 4000000 in
set_option maxRecDepth 100000 in
theorem ls_i5 : Cond.instantiable RX5 2 ∈ lw_tbl := by decide +kernel
set_option maxHeartbeats 4000000 in
set_option maxRecDepth 100000 in
theorem ls_i6 : Cond.instantiable RX6 27 ∈ lw_tbl := by decide +kernel
set_option maxHeartbeats 4000000 in
set_option maxRecDepth 100000 in
theorem ls_i7 : Cond.instantiable RX7 3 ∈ lw_tbl := by decide +kernel
theorem ls_env {p : Program} {s : State} {m : MethodId} {meth : Method} {c : Code} {b L : Nat} {xs : Nat → Int32} (hL : L ≤ 3584) (C0 : lw_At p s m meth c b L xs) : lEnv p s m meth c b L xs ∧ mXc (fun q => s.heap.size ≤ q) s := by
  obtain ⟨hx, hb, hr, hml, hown, hts0, hX, hbl, hlocks, hgv⟩ := C0
  have hf := flat_of_before _ hgv
  have hA : ∀ a : Nat, a < s.heap.size → ¬ (fun q => s.heap.size ≤ q) a := fun a h => Nat.not_le.mpr h
  have Z : mZ (fun q => s.heap.size ≤ q) s := ⟨⟨vx_Zqof (hts0 _ ls_z1.1) (hts0 _ ls_z1.2.1) (hf _ ls_z2.1) hA, vx_Zqof (hts0 _ ls_z1.2.2) (hts0 _ ls_z1.2.1) (hf _ ls_z2.2) hA⟩, fun w hw => va_Nw.of (mZw_tab w hw) (hts0 w (ls_zw w hw)), fun q hq => by
    obtain ⟨a, -, -, -, ha, -⟩ := Cond.exactly_spec (hf _ (ls_ex q hq))
    exact ⟨a, vk_R.of (hts0 _ (ls_str q hq)) ha⟩⟩
  refine ⟨⟨hx, hb, hml, hown, fun w hw => hts0 w (wsL_law_in w hw), hX, hbl, ⟨Z, fun q hq => va_Nc.of (hf _ (ls_nc q hq)), fun w hw => va_Nw.of (mLw_good w hw).2 (hts0 w (ls_lw w hw))⟩, fun q hq => va_Nw.of rfl (hts0 _ (ls_nw q hq)), hL⟩, fun q hq => va_Nw.of rfl (hts0 _ (ls_nm q hq)), hts0 _ ls_ar.2.2.1, hts0 _ ls_ar.2.2.2.1, hts0 _ ls_ar.2.2.2.2⟩
/-- the places of the law's world in the order in which it is made -/
def lPi (c : Nat) : Nat := if c < 42 then 162 + c else if c = 42 then 161 else if c < 203 then c - 42 else if c = 203 then 0 else 204
theorem lPi_lt {c : Nat} (h : c < 205) : lPi c < 205 := by
  unfold lPi
  split <;> (try split) <;> (try split) <;> (try split) <;> omega
def lQi (q : Nat) : Nat := if q = 204 then 204 else if q = 0 then 203 else if q = 161 then 42 else if 162 ≤ q then q - 162 else q + 42
theorem lPi_inv : ∀ c, c < 205 → lQi (lPi c) = c := by decide +kernel
theorem lPi_inj : ∀ a b, a < 205 → b < 205 → lPi a = lPi b → a = b := fun a b ha hb h => by rw [← lPi_inv a ha, h, lPi_inv b hb]
def lW0 : lW := ⟨0, iρ, iρ, iσ, iσ, fun _ => 0⟩
theorem mB_ad {y : Nat → ClassId} {ad ad' : Nat → Nat} {σ τ : mSt} (h : ∀ j, j < 160 → ad j = ad' j) : ∀ c, c < 161 → mB y ad σ τ c = mB y ad' σ τ c ∨ ∃ cA z f f', mB y ad σ τ c = .inl (cA, z, .inr (.inr (.inr (.inr f)))) ∧ mB y ad' σ τ c = .inl (cA, z, .inr (.inr (.inr (.inr f')))) ∧ ∀ k, k < z → f k = f' k := by
  intro c hc
  by_cases h1 : c < 80
  · rw [mB_0 _ _ _ _ h1, mB_0 _ _ _ _ h1]
    exact mS_ad (fun j hj => h j (by omega)) c h1
  · by_cases h2 : c < 160
    · obtain ⟨d, rfl⟩ : ∃ d, c = 80 + d := ⟨c - 80, by omega⟩
      rw [mB_1 _ _ _ _ (show d < 80 by omega), mB_1 _ _ _ _ (show d < 80 by omega)]
      exact mS_ad (fun j hj => h (80 + j) (by omega)) d (by omega)
    · have h3 : c = 160 := by omega
      subst h3
      exact Or.inl (by rw [mB_b, mB_b, h 0 (by omega), h 80 (by omega)])
theorem mM_ad {y : Nat → ClassId} {ad ad' : Nat → Nat} {th : Int32} {ρ α : mSt} (h : ∀ j, j < 42 → ad j = ad' j) : ∀ c, c < 43 → mM y ad th ρ α c = mM y ad' th ρ α c := by
  intro c hc
  by_cases h1 : c < 21
  · rw [mM_0 _ _ _ _ _ h1, mM_0 _ _ _ _ _ h1]
    exact mR_ad (fun j _ hj => h j (by omega)) c
  · by_cases h2 : c < 42
    · obtain ⟨d, rfl⟩ : ∃ d, c = 21 + d := ⟨c - 21, by omega⟩
      rw [mM_1 _ _ _ _ _ (show d < 21 by omega), mM_1 _ _ _ _ _ (show d < 21 by omega)]
      exact mR_ad (fun j _ hj => h (21 + j) (by omega)) d
    · have h3 : c = 42 := by omega
      subst h3
      rw [mM_m, mM_m, h 0 (by omega), h 21 (by omega)]
theorem l_ready {D : va_G} {y : Nat → ClassId} {s : State} {H : Heap} {locs : List Loc} {ad9 ad1 ad2 : Nat → Nat} {E9 : Nat → va_E} (V : mV D y (fun q => s.heap.size ≤ q) s s.heap H locs 205 ad9 E9) (a0 : ad9 0 = ad1 0) (a1 : ∀ k, k < 160 → ad9 (1 + k) = ad1 (k + 1)) (a2 : ad9 161 = ad2 0) (a3 : ∀ k, k < 42 → ad9 (162 + k) = ad2 (k + 1))
    (e0 : E9 0 = mBE y ad1 0) (e1 : ∀ k, k < 160 → E9 (1 + k) = mBE y ad1 (k + 1)) (e2 : E9 161 = mME y ad2 0) (e3 : ∀ k, k < 42 → E9 (162 + k) = mME y ad2 (k + 1)) (e4 : E9 204 = .inl (y 4, (1, .inr (.inl (fun _ => 0))))) : lV D y s H locs (fun c => ad9 (lPi c)) lW0 := by
  refine (V.perm (n' := 205) (ad' := fun c => ad9 (lPi c)) (E' := fun c => E9 (lPi c)) lPi (fun c hc => ⟨lPi_lt hc, rfl, rfl⟩) lPi_inj).as (fun c hc => ?_)
  have p1 : ∀ k, k < 42 → lPi k = 162 + k := fun k hk => by unfold lPi; rw [if_pos hk]
  have p2 : lPi 42 = 161 := rfl
  have p3 : ∀ k, k < 160 → lPi (43 + k) = 1 + k := fun k hk => by
    unfold lPi
    rw [if_neg (by omega), if_neg (by omega), if_pos (by omega)]
    omega
  have p4 : lPi 203 = 0 := rfl
  have p5 : lPi 204 = 204 := rfl
  have hm : ∀ j, j < 42 → (fun k => ad2 (k + 1)) j = (fun c => ad9 (lPi c)) j := fun j hj => by
    show ad2 (j + 1) = ad9 (lPi j)
    rw [p1 j hj, a3 j hj]
  have hbk : ∀ j, j < 160 → (fun k => ad1 (k + 1)) j = (fun k => (fun c => ad9 (lPi c)) (43 + k)) j := fun j hj => by
    show ad1 (j + 1) = ad9 (lPi (43 + j))
    rw [p3 j hj, a1 j hj]
  by_cases h1 : c < 43
  · refine Or.inl ?_
    show E9 (lPi c) = mW y (fun c => ad9 (lPi c)) 0 iρ iρ iσ iσ (fun _ => 0) c
    rw [mW_0 h1, ← mM_ad hm c h1]
    by_cases h2 : c = 42
    · subst h2
      rw [p2, e2]
      rfl
    · rw [p1 c (by omega), e3 c (by omega)]
      unfold mME
      rw [if_neg (by omega), Nat.add_sub_cancel]
  · obtain ⟨d, rfl⟩ : ∃ d, c = 43 + d := ⟨c - 43, by omega⟩
    by_cases h2 : d < 161
    · have h5 : mW y (fun c => ad9 (lPi c)) 0 iρ iρ iσ iσ (fun _ => 0) (43 + d) = mB y (fun k => (fun c => ad9 (lPi c)) (43 + k)) iσ iσ d := mW_1.trans (mHw_0 h2)
      have h3 : E9 (lPi (43 + d)) = mB y (fun k => ad1 (k + 1)) iσ iσ d := by
        by_cases h4 : d = 160
        · subst h4
          rw [p4, e0]
          rfl
        · rw [p3 d (by omega), e1 d (by omega)]
          unfold mBE
          rw [if_neg (by omega), Nat.add_sub_cancel]
      have key := mB_ad (y := y) (σ := iσ) (τ := iσ) hbk d h2
      rw [← h3, ← h5] at key
      exact key
    · have h3 : d = 161 := by omega
      subst h3
      refine Or.inl ?_
      show E9 (lPi 204) = _
      rw [p5, e4]
      rfl
set_option maxHeartbeats 4000000 in
set_option maxRecDepth 100000 in
theorem whole_start_of {Inv : Nat → lW → Prop} (hI0 : Inv 0 lW0) (N : Nat) (hst : ∀ k w (a : Nat → Int32), k < 512 → Inv k w → ∃ w', f_step N a w = some w' ∧ Inv (k + 1) w') {p : Program} {e : Env} {s : State} {m : MethodId} {below : List Frame} {meth : Method} {c : Code} (l : Launch) (hflags : l.flags = flags0) {b L : Nat} {xs : Nat → Int32} (hL : L ≤ 3584) (C0 : lw_At p s m meth c b L xs) : W p l e room_1 s m #[Value.ref b] below meth c s.heap [] 0 0 (lw_Z below #[Value.ref b] s) (entryFrame m ([Value.ref b] : List Value).toArray 9) := by
  have hstk : l.stackTraces = false := by
    unfold Launch.stackTraces
    rw [hflags]
    decide
  obtain ⟨C1, ZX⟩ := ls_env hL C0
  obtain ⟨hx, hb, hr, hml, hown, hts0, hX, hbl, hlocks, hgv⟩ := id C0
  obtain ⟨-, -, -, -, hts, -, -, Z2, ZN, -⟩ := id C1
  have hA : ∀ q : Nat, s.heap.size ≤ q → (fun q : Nat => s.heap.size ≤ q) q := fun _ h => h
  obtain ⟨c0, i0, k0⟩ := u_known (C := RX0) (T := TX0) (N := 10) (n := 10) hts0 inX0 (hts0 _ ls_i0)
  obtain ⟨c1, i1, k1⟩ := u_known (C := RX1) (T := TX1) (N := 5) (n := 5) hts0 inX1 (hts0 _ ls_i1)
  obtain ⟨c2, i2, k2⟩ := u_known (C := RX2) (T := TX2) (N := 5) (n := 5) hts0 inX2 (hts0 _ ls_i2)
  obtain ⟨c3, i3, k3⟩ := u_known (C := RX3) (T := TX3) (N := 3) (n := 3) hts0 inX3 (hts0 _ ls_i3)
  obtain ⟨c4, i4, k4⟩ := u_known (C := RX4) (T := TX4) (N := 14) (n := 14) hts0 inX4 (hts0 _ ls_i4)
  obtain ⟨c5, i5, k5⟩ := u_known (C := RX5) (T := TX5) (N := 2) (n := 2) hts0 inX5 (hts0 _ ls_i5)
  obtain ⟨c6, i6, k6⟩ := u_known (C := RX6) (T := TX6) (N := 27) (n := 27) hts0 inX6 (hts0 _ ls_i6)
  obtain ⟨c7, i7, k7⟩ := u_known (C := RX7) (T := TX7) (N := 3) (n := 3) hts0 inX7 (hts0 _ ls_i7)
  obtain ⟨D, hKc⟩ : ∃ D : va_G, ∀ (k : Nat) (q : vw_C), vwCl[k]? = some q → u_Kn s q.1 q.2.1 q.2.2 (D.1 k) (D.2 k) := by
    refine ⟨(fun k => match k with | 0 => c0 | 1 => c1 | 2 => c2 | 3 => c3 | 4 => c4 | 5 => c5 | 6 => c6 | _ => c7, fun k => match k with | 0 => i0 | 1 => i1 | 2 => i2 | 3 => i3 | 4 => i4 | 5 => i5 | 6 => i6 | _ => i7), ?_⟩
    intro k q hq
    match k, hq with
    | 0, hq => cases hq; exact k0
    | 1, hq => cases hq; exact k1
    | 2, hq => cases hq; exact k2
    | 3, hq => cases hq; exact k3
    | 4, hq => cases hq; exact k4
    | 5, hq => cases hq; exact k5
    | 6, hq => cases hq; exact k6
    | 7, hq => cases hq; exact k7
    | k + 8, hq => simp [vwCl] at hq
  obtain ⟨y, hK⟩ := mK_of hKc (hts0 _ ls_ar.1) (hts0 _ ls_ar.2.1) ZX.2.1 ZX.2.2.1 ZX.2.2.2
  have V : mV D y (fun q => s.heap.size ≤ q) s s.heap s.heap [] 0 (fun _ => 0) (fun _ => .inr (0, [])) := ⟨hK, fun k q h => by simp [mWl] at h, ⟨fun i j p q h => by simp [mWl] at h, fun k q h => by simp [mWl] at h⟩, va_S.rf, hA⟩
  refine W.base ?_
  have hl := lv_entry ([.ref b]) (n := 9) (Nat.le_of_ble_eq_true rfl)
  rw [lg_entry_eq]
  generalize (lg_sl ([.ref b]) ++ List.replicate (9 - (lg_sl ([.ref b])).length) Slot.unset).toArray = ls at hl ⊢
  have hl : lv_has ls 9 [(0, .ref b)] := hl
  show W p l e room_1 s m #[Value.ref b] below meth c s.heap [] 0 0 (lw_Z below #[Value.ref b] s) (F0 m 0 ls [])
  refine m_new (ci := 5) (fs := [.null, .null]) hx hb hts0 inX5 tyX5 tyX5_ok hown (hts0 (.classLink RL 8 RX5) (by decide +kernel)) (hts0 (.instantiable RX5 2) ls_i5) (hts0 (.initialized RX5) (by decide +kernel)) V rfl (by decide +kernel) (Nat.le_of_ble_eq_true rfl) (Nat.le_of_ble_eq_true rfl) dL_law_0 (fun q1 H V => ?_)
  refine lv_dup hx hb dL_law_3 rfl ?_
  refine m_callNI (o := 0) ⟨hx, hb, hml, hown, hts⟩ (va_up_self _ _ _).symm (c_X5_init (l := l) (va_up_self _ _ _)) (cwI 0 hts ggL_law_X5_init rfl rfl rfl (hts0 (.initialized RX5) (by decide +kernel)) (hts0 (.methodLink RL 74 yX5_init) (by decide +kernel)) (hts0 (.instanceMethod yX5_init) (by decide +kernel)) rfl (by decide +kernel) ⟨Nat.le_of_ble_eq_true rfl, Nat.le_of_ble_eq_true rfl⟩) mXc_ok V (by omega) (by omega) (fun U hU hW => mXc_at ZX hW) hl.1 (Nat.le_of_ble_eq_true rfl) ⟨Nat.le_of_ble_eq_true rfl, Nat.le_of_ble_eq_true rfl⟩ dL_law_4 (fun ad1 H locs had1 V => ?_)
  have had1 : ad1 0 = q1 := had1.trans (va_up_self _ _ _)
  refine lv_astore_n (lv' := [(1, .ref q1), (0, .ref b)]) hx hb dL_law_7 rfl hl (by decide) rfl (fun ls hl => ?_)
  refine m_new (ci := 7) (fs := [.int 0, .null, .null]) hx hb hts0 inX7 tyX7 tyX7_ok hown (hts0 (.classLink RL 75 RX7) (by decide +kernel)) (hts0 (.instantiable RX7 3) ls_i7) (hts0 (.initialized RX7) (by decide +kernel)) V rfl (by decide +kernel) (Nat.le_of_ble_eq_true rfl) (Nat.le_of_ble_eq_true rfl) dL_law_8 (fun q2 H V => ?_)
  refine lv_dup hx hb dL_law_11 rfl ?_
  refine m_callNI (o := 161) ⟨hx, hb, hml, hown, hts⟩ (va_up_self _ _ _).symm (c_X7_init (l := l) (va_up_self _ _ _)) (cwI 0 hts ggL_law_X7_init rfl rfl rfl (hts0 (.initialized RX7) (by decide +kernel)) (hts0 (.methodLink RL 77 yX7_init) (by decide +kernel)) (hts0 (.instanceMethod yX7_init) (by decide +kernel)) rfl (by decide +kernel) ⟨Nat.le_of_ble_eq_true rfl, Nat.le_of_ble_eq_true rfl⟩) mXc_ok V (by omega) (by omega) (fun U hU hW => mXc_at ZX hW) hl.1 (Nat.le_of_ble_eq_true rfl) ⟨Nat.le_of_ble_eq_true rfl, Nat.le_of_ble_eq_true rfl⟩ dL_law_12 (fun ad2 H locs had2 V => ?_)
  have had2 : ad2 0 = q2 := had2.trans (va_up_self _ _ _)
  refine lv_astore_n (lv' := [(2, .ref q2), (1, .ref q1), (0, .ref b)]) hx hb dL_law_15 rfl hl (by decide) rfl (fun ls hl => ?_)
  refine lv_iconst (v := 1) hx hb dL_law_16 (by decide) ?_
  refine m_newJ hx hb (hts0 _ ls_ar.2.1) V (z := 1) (Z := 1) (by decide) rfl (by decide) (Nat.le_of_ble_eq_true rfl) (Nat.le_of_ble_eq_true rfl) dL_law_17 (fun q3 H V => ?_)
  refine lv_astore_n (lv' := [(3, .ref q3), (2, .ref q2), (1, .ref q1), (0, .ref b)]) hx hb dL_law_19 rfl hl (by decide) rfl (fun ls hl => ?_)
  refine lv_iconst (v := 0) hx hb dL_law_20 (by decide) ?_
  refine lv_istore (lv' := [(4, .int 0), (3, .ref q3), (2, .ref q2), (1, .ref q1), (0, .ref b)]) hx hb dL_law_21 hl (by decide) rfl (fun ls hl => ?_)
  have V : mV D y (fun q => s.heap.size ≤ q) s s.heap H _ 205 _ _ := V
  have V := l_ready (ad1 := ad1) (ad2 := ad2) V ?_ ?_ ?_ ?_ ?_ ?_ ?_ ?_ ?_
  refine law_loop hstk C1 hst (fun H locs ls c1 s1 E hc hs V => ?_) 512 0 lW0 (Nat.zero_le _) (by omega) hI0 _ _ ls _ _ (Nat.le_of_ble_eq_true rfl) (Nat.le_of_ble_eq_true rfl) V ?_
  · refine lv_iconst (v := 1) hx hb dL_law_1459 (by decide) ?_
    refine va_forget (fun q hq => V.2.2.2.1.2.2 q hq) ?_
    refine W.widen hc hs ?_
    exact lw_ret (Drawn.sameBut.refl s.drawn lw_cs) hx hb hr hlocks dL_law_1460
  · have hl : lv_has ls 9 [(4, .int (nI (7 * 0))), (0, .ref b), (1, .ref q1), (2, .ref q2), (3, .ref q3)] := lv_sub hl [0, 4, 3, 2, 1] rfl
    exact hl
  · exact (show q1 = ad1 0 from had1.symm)
  · intro k hk
    simp only [va_up, mAd]
    rw [if_neg (by omega), if_pos (by omega), if_neg (by omega), if_neg (by omega)]
    congr 1
    omega
  · exact (show q2 = ad2 0 from had2.symm)
  · intro k hk
    simp only [va_up, mAd]
    rw [if_neg (by omega), if_neg (by omega)]
    congr 1
    omega
  · rfl
  · intro k hk
    simp only [va_up, mEd]
    rw [if_neg (by omega), if_pos (by omega), if_neg (by omega), if_neg (by omega), if_neg (by omega)]
    congr 1
    omega
  · rfl
  · intro k hk
    simp only [va_up, mEd]
    rw [if_neg (by omega), if_neg (by omega)]
    congr 1
    omega
  · rfl
