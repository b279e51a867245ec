def mBE (y : Nat → ClassId) (ad : Nat → Nat) (c : Nat) : va_E := if c = 0 then .inr (5, [.ref (ad 1), .ref (ad 81)]) else mB y (fun k => ad (k + 1)) iσ iσ (c - 1)
theorem mS_ad {y : Nat → ClassId} {ad ad' : Nat → Nat} {σ : mSt} (h : ∀ j, j < 80 → ad j = ad' j) : ∀ c, c < 80 → mS y ad σ c = mS y ad' σ c ∨ ∃ cA z f f', mS y ad σ c = .inl (cA, z, .inr (.inr (.inr (.inr f)))) ∧ mS y ad' σ c = .inl (cA, z, .inr (.inr (.inr (.inr f')))) ∧ ∀ k, k < z → f k = f' k := by
  intro c hc
  by_cases h0 : c = 0
  · subst h0
    exact Or.inl (by rw [mS_T, mS_T, h 1 (by omega), h 2 (by omega), h 3 (by omega)])
  by_cases h1 : c = 1
  · subst h1
    exact Or.inr ⟨_, _, _, _, rfl, rfl, fun k hk => congrArg some (h (4 + k) (by omega))⟩
  by_cases h2 : c = 2
  · subst h2
    exact Or.inr ⟨_, _, _, _, rfl, rfl, fun k hk => congrArg some (h (12 + k) (by omega))⟩
  by_cases h3 : c = 3
  · subst h3
    exact Or.inr ⟨_, _, _, _, rfl, rfl, fun k hk => congrArg some (h (32 + k) (by omega))⟩
  refine Or.inl ?_
  by_cases h4 : c < 12
  · obtain ⟨d, rfl⟩ : ∃ d, c = 4 + d := ⟨c - 4, by omega⟩
    rw [mS_P y _ σ (by omega), mS_P y _ σ (by omega)]
  by_cases h5 : c < 32
  · obtain ⟨d, rfl⟩ : ∃ d, c = 12 + d := ⟨c - 12, by omega⟩
    rw [mS_L y _ σ (by omega), mS_L y _ σ (by omega)]
  by_cases h6 : c < 48
  · obtain ⟨d, rfl⟩ : ∃ d, c = 32 + d := ⟨c - 32, by omega⟩
    rw [mS_G y _ σ (by omega), mS_G y _ σ (by omega), h _ (by omega), h _ (by omega)]
  · obtain ⟨d, rfl⟩ : ∃ d, c = 48 + d := ⟨c - 48, by omega⟩
    rw [mS_S y _ σ (by omega), mS_S y _ σ (by omega)]
theorem two_putB {y : Nat → ClassId} {ad1 : Nat → Nat} {E : Nat → va_E} {x : va_E} {e' e0 : va_E} (hx : e' = x) : ∀ c, c < 2 + (80 - 1) → va_up (mEd (va_up E 1 e0) 1 2 (mS y ad1 iσ)) 0 e' c = (if c = 0 then x else mS y ad1 iσ (c - 1)) := fun c hc => by
  subst hx
  by_cases h : c = 0
  · subst h; rw [va_up_self, if_pos rfl]
  · rw [va_up_ne _ _ h, if_neg h]
    unfold mEd
    by_cases h2 : c < 2
    · rw [if_pos h2, if_pos (by omega), show c - 1 = 0 by omega]
    · rw [if_neg h2, show c - 2 + 1 = c - 1 by omega]
def iBx (y : Nat → ClassId) (ad1 ad2 : Nat → Nat) (q1 q2 : Nat) (c : Nat) : va_E := if c = 0 then .inr (5, [.ref q1, .ref q2]) else if c < 81 then mS y ad1 iσ (c - 1) else mS y ad2 iσ (c - 81)
theorem iBx_p {y : Nat → ClassId} {ad1 ad2 : Nat → Nat} {q1 q2 : Nat} {e0 : va_E} : ∀ c, c < 2 + (80 - 1) + 1 + (80 - 1) → va_up (mEd (va_up (fun c => if c = 0 then .inr (5, [.ref q1, .null]) else mS y ad1 iσ (c - 1)) 81 e0) 81 82 (mS y ad2 iσ)) 0 (.inr (5, [.ref q1, .ref q2])) c = iBx y ad1 ad2 q1 q2 c := fun c hc => by
  unfold iBx
  by_cases h : c = 0
  · subst h; rw [va_up_self, if_pos rfl]
  · rw [va_up_ne _ _ h, if_neg h]
    unfold mEd
    by_cases h2 : c < 81
    · rw [if_pos (by omega), if_neg (by omega), va_up_ne _ _ (by omega), if_neg h, if_pos h2]
    · rw [if_neg h2]
      by_cases h3 : c = 81
      · subst h3; rw [if_pos (by omega), if_pos rfl]
      · rw [if_neg (by omega), show c - 82 + 1 = c - 81 by omega]
theorem iBx_end {y : Nat → ClassId} {A ad1 ad2 : Nat → Nat} {q1 q2 : Nat} (e1 : ∀ j, j < 80 → A (j + 1) = ad1 j) (e2 : ∀ j, j < 80 → A (81 + j) = ad2 j) (had1 : ad1 0 = q1) (had2 : ad2 0 = q2) : ∀ c, c < 161 → iBx y ad1 ad2 q1 q2 c = mBE y A c ∨ ∃ cA z f f', iBx y ad1 ad2 q1 q2 c = .inl (cA, z, .inr (.inr (.inr (.inr f)))) ∧ mBE y A c = .inl (cA, z, .inr (.inr (.inr (.inr f')))) ∧ ∀ k, k < z → f k = f' k := by
  intro c hc
  unfold iBx mBE
  by_cases h : c = 0
  · subst h
    refine Or.inl ?_
    rw [if_pos rfl, if_pos rfl, e1 0 (by omega), e2 0 (by omega), had1, had2]
  · rw [if_neg h, if_neg h]
    by_cases h2 : c < 81
    · rw [if_pos h2, mB_0 _ _ _ _ (by omega)]
      exact mS_ad (fun j hj => (e1 j hj).symm) _ (by omega)
    · obtain ⟨d, rfl⟩ : ∃ d, c = 81 + d := ⟨c - 81, by omega⟩
      rw [if_neg h2, show 81 + d - 1 = 80 + d by omega, show 81 + d - 81 = d by omega, mB_1 _ _ _ _ (by omega)]
      refine mS_ad (fun j hj => ?_) _ (by omega)
      rw [← e2 j hj, show 80 + j + 1 = 81 + j by omega]
set_option maxHeartbeats 4000000 in
set_option maxRecDepth 100000 in
theorem c_X5_init {l : Launch} {D : va_G} {y : Nat → ClassId} {h0 : Nat} {E0 : va_E} (hE0 : E0 = .inr (5, [.null, .null])) : mCN l yX5_init wsX5_init { frames := 4, cells := 160, slots := 908, locals := 73 } D y mXc h0 E0 161 (mBE y) 160 908 := by
  subst hE0
  refine m_startN (cc := cX5_init) (maxL := 1) (ret := none) (by decide) rfl (Nat.le_of_ble_eq_true rfl) (fun p e s m args below meth c ls hB hnm9 V Z hl => ?_)
  obtain ⟨hx, hb, hml, hown, hts, hr, hlk⟩ := id hB
  have hl : lv_has ls 1 [(0, .ref h0)] := hl
  refine lv_aload_n hx hb dX5_init_0 rfl (lv_at hl 0 rfl) ?_
  refine m_obj hx hb hml hl.1 hown (hts _ (List.mem_of_getElem? (i := 1) rfl)) (hts _ (List.mem_of_getElem? (i := 2) rfl)) (hts _ (List.mem_of_getElem? (i := 3) rfl)) (Nat.le_of_ble_eq_true rfl) (Nat.le_of_ble_eq_true rfl) dX5_init_1 ?_
  refine lv_aload_n hx hb dX5_init_4 rfl (lv_at hl 0 rfl) ?_
  refine m_new (ci := 4) (fs := [.null, .null, .null, .int 0, .int 0, .int 0, .int 0, .int 0, .int 0, .int 0, .int 0, .int 0, .int 0, .int 0]) hx hb hts (fun _ h => List.mem_cons_of_mem _ (List.mem_append_left _ (List.mem_append_left _ (List.mem_append_left _ (List.mem_append_left _ (List.mem_append_left _ (List.mem_append_right _ h))))))) tyX4 tyX4_ok hown (hts _ (List.mem_of_getElem? (i := 4) rfl)) (hts _ (List.mem_of_getElem? (i := 5) rfl)) (hts _ (List.mem_of_getElem? (i := 6) rfl)) V rfl (by decide +kernel) (Nat.le_of_ble_eq_true rfl) (Nat.le_of_ble_eq_true rfl) dX5_init_5 (fun q1 H V => ?_)
  refine lv_dup hx hb dX5_init_8 rfl ?_
  refine m_callNI (o := 1) ⟨hx, hb, hml, hown, hts⟩ (va_up_self _ _ _).symm (c_X4_init (va_up_self _ _ _)) (cwI 0 hts ggX5_init_X4_init rfl rfl rfl (hts _ (List.mem_of_getElem? (i := 6) rfl)) (hts _ (List.mem_of_getElem? (i := 9) rfl)) (hts _ (List.mem_of_getElem? (i := 10) rfl)) rfl (by decide +kernel) ⟨Nat.le_of_ble_eq_true rfl, Nat.le_of_ble_eq_true rfl⟩) mXc_ok V (by omega) (by omega) (fun U hU hW => mXc_at Z hW) hl.1 (Nat.le_of_ble_eq_true rfl) ⟨Nat.le_of_ble_eq_true rfl, Nat.le_of_ble_eq_true rfl⟩ dX5_init_9 (fun ad1 H locs had1 V => ?_)
  have had1 : ad1 0 = q1 := had1.trans (va_up_self _ _ _)
  refine m_putF (ty := .object "MinuteBank$State") (a := 0) (E' := fun c => if c = 0 then .inr (5, [.ref q1, .null]) else mS y ad1 iσ (c - 1)) hx hb hts hown hnm9 V (fun _ h => List.mem_cons_of_mem _ (List.mem_append_left _ (List.mem_append_left _ (List.mem_append_left _ (List.mem_append_left _ (List.mem_append_right _ h)))))) tyX5 tyX5_ok nmX5 (by omega) rfl rfl 0 (by decide) (Nat.le_of_ble_eq_true rfl) rfl rfl (hts _ (List.mem_of_getElem? (i := 7) rfl)) rfl (by decide +kernel) rfl rfl rfl (two_putB rfl) rfl dX5_init_12 (fun H locs V => ?_)
  refine lv_aload_n hx hb dX5_init_15 rfl (lv_at hl 0 rfl) ?_
  refine m_new (ci := 4) (fs := [.null, .null, .null, .int 0, .int 0, .int 0, .int 0, .int 0, .int 0, .int 0, .int 0, .int 0, .int 0, .int 0]) hx hb hts (fun _ h => List.mem_cons_of_mem _ (List.mem_append_left _ (List.mem_append_left _ (List.mem_append_left _ (List.mem_append_left _ (List.mem_append_left _ (List.mem_append_right _ h))))))) tyX4 tyX4_ok hown (hts _ (List.mem_of_getElem? (i := 4) rfl)) (hts _ (List.mem_of_getElem? (i := 5) rfl)) (hts _ (List.mem_of_getElem? (i := 6) rfl)) V rfl (by decide +kernel) (Nat.le_of_ble_eq_true rfl) (Nat.le_of_ble_eq_true rfl) dX5_init_16 (fun q2 H V => ?_)
  refine lv_dup hx hb dX5_init_19 rfl ?_
  refine m_callNI (o := 81) ⟨hx, hb, hml, hown, hts⟩ (va_up_self _ _ _).symm (c_X4_init (va_up_self _ _ _)) (cwI 0 hts ggX5_init_X4_init rfl rfl rfl (hts _ (List.mem_of_getElem? (i := 6) rfl)) (hts _ (List.mem_of_getElem? (i := 9) rfl)) (hts _ (List.mem_of_getElem? (i := 10) rfl)) rfl (by decide +kernel) ⟨Nat.le_of_ble_eq_true rfl, Nat.le_of_ble_eq_true rfl⟩) mXc_ok V (by omega) (by omega) (fun U hU hW => mXc_at Z hW) hl.1 (Nat.le_of_ble_eq_true rfl) ⟨Nat.le_of_ble_eq_true rfl, Nat.le_of_ble_eq_true rfl⟩ dX5_init_20 (fun ad2 H locs had2 V => ?_)
  have had2 : ad2 0 = q2 := had2.trans (va_up_self _ _ _)
  refine m_putF (ty := .object "MinuteBank$State") (a := 0) (E' := iBx y ad1 ad2 q1 q2) hx hb hts hown hnm9 V (fun _ h => List.mem_cons_of_mem _ (List.mem_append_left _ (List.mem_append_left _ (List.mem_append_left _ (List.mem_append_left _ (List.mem_append_right _ h)))))) tyX5 tyX5_ok nmX5 (by omega) rfl rfl 1 (by decide) (Nat.le_of_ble_eq_true rfl) rfl rfl (hts _ (List.mem_of_getElem? (i := 8) rfl)) rfl (by decide +kernel) rfl rfl rfl iBx_p rfl dX5_init_23 (fun H locs V => ?_)
  have e1 : ∀ j, j < 80 → mAd (va_up (mAd (va_up (fun _ => h0) 1 q1) ad1 2) 81 q2) ad2 82 (j + 1) = ad1 j := fun j hj => by
    unfold mAd
    rw [if_pos (by omega), va_up_ne _ _ (by omega)]
    by_cases h : j + 1 < 2
    · rw [if_pos h, show j = 0 by omega]; exact had1.symm
    · rw [if_neg h, show j + 1 - 2 + 1 = j by omega]
  have e2 : ∀ j, j < 80 → mAd (va_up (mAd (va_up (fun _ => h0) 1 q1) ad1 2) 81 q2) ad2 82 (81 + j) = ad2 j := fun j hj => by
    unfold mAd
    by_cases h : j = 0
    · subst h; rw [if_pos (by omega), va_up_self]; exact had2.symm
    · rw [if_neg (by omega), show 81 + j - 82 + 1 = j by omega]
  exact m_vretN (n' := 161) (E' := mBE y) (sz' := 0) hx hb hr hlk (V.as (iBx_end e1 e2 had1 had2)) rfl (Nat.le_of_ble_eq_true rfl) (Nat.le_of_ble_eq_true rfl) dX5_init_26
