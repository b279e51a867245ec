def iρ : mSt := fun f _ => if f = 24 then 100000 else 0
abbrev iR0 : va_E := .inr (6, [.int 0, .int 0, .null, .null, .null, .null, .null, .int 0, .null, .null, .null, .null, .null, .null, .null, .null, .null, .null, .int 0, .null, .null, .null, .null, .null, .int 0, .int 0, .int 0])
def mRi (y : Nat → ClassId) (F : List Value) (c : Nat) : va_E := if c = 0 then .inr (6, F) else .inl (y 0, (mLen (c - 1), .inl (fun _ => 0)))
theorem mRi_new {y : Nat → ClassId} {F : List Value} {a Z n : Nat} (hZ : mLen a = Z) : ∀ c, c < n → va_up (mRi y F) (1 + a) (.inl (y 0, (Z, .inl (fun _ => 0)))) c = mRi y F c := fun c _ => by
  subst hZ
  by_cases h : c = 1 + a
  · subst h
    rw [va_up_self]
    unfold mRi
    rw [if_neg (by omega), Nat.add_sub_cancel_left]
  · rw [va_up_ne _ _ h]
theorem mRi_put {y : Nat → ClassId} {F F' : List Value} {n : Nat} : ∀ c, c < n → va_up (mRi y F) 0 (.inr (6, F')) c = mRi y F' c := fun c _ => by
  by_cases h : c = 0
  · subst h
    rw [va_up_self]
    rfl
  · rw [va_up_ne _ _ h]
    unfold mRi
    rw [if_neg h, if_neg h]
theorem mRi_end {y : Nat → ClassId} {ad : Nat → Nat} {F : List Value} (hF : F = mR0 ad iρ) : ∀ c, c < 21 → mRi y F c = mR y ad iρ c := fun c hc => by
  subst hF
  unfold mRi mR
  by_cases h : c = 0
  · rw [if_pos h, if_pos h]
  · rw [if_neg h, if_neg h]
    congr 4
    funext j
    show (0 : Int32) = if c - 1 = 24 then 100000 else 0
    rw [if_neg (by omega)]
theorem mR_ad {y : Nat → ClassId} {ad ad' : Nat → Nat} {ρ : mSt} (h : ∀ j, 1 ≤ j → j < 21 → ad j = ad' j) (c : Nat) : mR y ad ρ c = mR y ad' ρ c := by
  unfold mR
  by_cases h0 : c = 0
  · rw [if_pos h0, if_pos h0]
    unfold mR0
    rw [h 1 (by omega) (by omega), h 2 (by omega) (by omega), h 3 (by omega) (by omega), h 4 (by omega) (by omega), h 5 (by omega) (by omega), h 6 (by omega) (by omega), h 7 (by omega) (by omega), h 8 (by omega) (by omega), h 9 (by omega) (by omega), h 10 (by omega) (by omega), h 11 (by omega) (by omega), h 12 (by omega) (by omega), h 13 (by omega) (by omega), h 14 (by omega) (by omega), h 15 (by omega) (by omega), h 16 (by omega) (by omega), h 17 (by omega) (by omega), h 18 (by omega) (by omega), h 19 (by omega) (by omega), h 20 (by omega) (by omega)]
  · rw [if_neg h0, if_neg h0]
set_option maxHeartbeats 4000000 in
set_option maxRecDepth 100000 in
theorem c_X6_init {l : Launch} {D : va_G} {y : Nat → ClassId} {h0 : Nat} {E0 : va_E} (hE0 : E0 = iR0) : mCN l yX6_init wsX6_init { frames := 1, cells := 20, slots := 348, locals := 12 } D y mXc h0 E0 21 (fun ad => mR y ad iρ) 20 348 := by
  subst hE0
  refine m_startN (cc := cX6_init) (maxL := 1) (ret := none) (by decide) rfl (Nat.le_of_ble_eq_true rfl) (fun p e s m args below meth c ls hB hnm9 V Z hl => ?_)
  obtain ⟨hx, hb, hml, hown, hts, hr, hlk⟩ := id hB
  have hl : lv_has ls 1 [(0, .ref h0)] := hl
  refine lv_aload_n hx hb dX6_init_0 rfl (lv_at hl 0 rfl) ?_
  refine m_obj hx hb hml hl.1 hown (hts _ (List.mem_of_getElem? (i := 1) rfl)) (hts _ (List.mem_of_getElem? (i := 2) rfl)) (hts _ (List.mem_of_getElem? (i := 3) rfl)) (Nat.le_of_ble_eq_true rfl) (Nat.le_of_ble_eq_true rfl) dX6_init_1 ?_
  have V := V.to (E' := mRi y [.int 0, .int 0, .null, .null, .null, .null, .null, .int 0, .null, .null, .null, .null, .null, .null, .null, .null, .null, .null, .int 0, .null, .null, .null, .null, .null, .int 0, .int 0, .int 0]) (one_c rfl)
  refine lv_aload_n hx hb dX6_init_4 rfl (lv_at hl 0 rfl) ?_
  refine lv_bipush (v := 8) hx hb dX6_init_5 (by decide) ?_
  refine m_newI hx hb (hts _ (List.mem_of_getElem? (i := 4) rfl)) V (z := 8) (Z := 8) (by decide) rfl (by decide) (Nat.le_of_ble_eq_true rfl) (Nat.le_of_ble_eq_true rfl) dX6_init_7 (fun q1 H V => ?_)
  have V := V.to (mRi_new (a := 0) rfl)
  refine m_putF (ty := .array .int) (a := 0) (E' := mRi y [.int 0, .int 0, .ref q1, .null, .null, .null, .null, .int 0, .null, .null, .null, .null, .null, .null, .null, .null, .null, .null, .int 0, .null, .null, .null, .null, .null, .int 0, .int 0, .int 0]) hx hb hts hown hnm9 V (fun _ h => List.mem_cons_of_mem _ (List.mem_append_right _ h)) tyX6 tyX6_ok nmX6 (by omega) rfl rfl 2 (by decide) (Nat.le_of_ble_eq_true rfl) rfl rfl (hts _ (List.mem_of_getElem? (i := 5) rfl)) rfl (by decide +kernel) rfl rfl rfl mRi_put rfl dX6_init_9 (fun H locs V => ?_)
  refine lv_aload_n hx hb dX6_init_12 rfl (lv_at hl 0 rfl) ?_
  refine lv_bipush (v := 8) hx hb dX6_init_13 (by decide) ?_
  refine m_newI hx hb (hts _ (List.mem_of_getElem? (i := 4) rfl)) V (z := 8) (Z := 8) (by decide) rfl (by decide) (Nat.le_of_ble_eq_true rfl) (Nat.le_of_ble_eq_true rfl) dX6_init_15 (fun q2 H V => ?_)
  have V := V.to (mRi_new (a := 1) rfl)
  refine m_putF (ty := .array .int) (a := 0) (E' := mRi y [.int 0, .int 0, .ref q1, .ref q2, .null, .null, .null, .int 0, .null, .null, .null, .null, .null, .null, .null, .null, .null, .null, .int 0, .null, .null, .null, .null, .null, .int 0, .int 0, .int 0]) hx hb hts hown hnm9 V (fun _ h => List.mem_cons_of_mem _ (List.mem_append_right _ h)) tyX6 tyX6_ok nmX6 (by omega) rfl rfl 3 (by decide) (Nat.le_of_ble_eq_true rfl) rfl rfl (hts _ (List.mem_of_getElem? (i := 6) rfl)) rfl (by decide +kernel) rfl rfl rfl mRi_put rfl dX6_init_17 (fun H locs V => ?_)
  refine lv_aload_n hx hb dX6_init_20 rfl (lv_at hl 0 rfl) ?_
  refine lv_bipush (v := 8) hx hb dX6_init_21 (by decide) ?_
  refine m_newI hx hb (hts _ (List.mem_of_getElem? (i := 4) rfl)) V (z := 8) (Z := 8) (by decide) rfl (by decide) (Nat.le_of_ble_eq_true rfl) (Nat.le_of_ble_eq_true rfl) dX6_init_23 (fun q3 H V => ?_)
  have V := V.to (mRi_new (a := 2) rfl)
  refine m_putF (ty := .array .int) (a := 0) (E' := mRi y [.int 0, .int 0, .ref q1, .ref q2, .ref q3, .null, .null, .int 0, .null, .null, .null, .null, .null, .null, .null, .null, .null, .null, .int 0, .null, .null, .null, .null, .null, .int 0, .int 0, .int 0]) hx hb hts hown hnm9 V (fun _ h => List.mem_cons_of_mem _ (List.mem_append_right _ h)) tyX6 tyX6_ok nmX6 (by omega) rfl rfl 4 (by decide) (Nat.le_of_ble_eq_true rfl) rfl rfl (hts _ (List.mem_of_getElem? (i := 7) rfl)) rfl (by decide +kernel) rfl rfl rfl mRi_put rfl dX6_init_25 (fun H locs V => ?_)
  refine lv_aload_n hx hb dX6_init_28 rfl (lv_at hl 0 rfl) ?_
  refine lv_bipush (v := 8) hx hb dX6_init_29 (by decide) ?_
  refine m_newI hx hb (hts _ (List.mem_of_getElem? (i := 4) rfl)) V (z := 8) (Z := 8) (by decide) rfl (by decide) (Nat.le_of_ble_eq_true rfl) (Nat.le_of_ble_eq_true rfl) dX6_init_31 (fun q4 H V => ?_)
  have V := V.to (mRi_new (a := 3) rfl)
  refine m_putF (ty := .array .int) (a := 0) (E' := mRi y [.int 0, .int 0, .ref q1, .ref q2, .ref q3, .ref q4, .null, .int 0, .null, .null, .null, .null, .null, .null, .null, .null, .null, .null, .int 0, .null, .null, .null, .null, .null, .int 0, .int 0, .int 0]) hx hb hts hown hnm9 V (fun _ h => List.mem_cons_of_mem _ (List.mem_append_right _ h)) tyX6 tyX6_ok nmX6 (by omega) rfl rfl 5 (by decide) (Nat.le_of_ble_eq_true rfl) rfl rfl (hts _ (List.mem_of_getElem? (i := 8) rfl)) rfl (by decide +kernel) rfl rfl rfl mRi_put rfl dX6_init_33 (fun H locs V => ?_)
  refine lv_aload_n hx hb dX6_init_36 rfl (lv_at hl 0 rfl) ?_
  refine lv_bipush (v := 8) hx hb dX6_init_37 (by decide) ?_
  refine m_newI hx hb (hts _ (List.mem_of_getElem? (i := 4) rfl)) V (z := 8) (Z := 8) (by decide) rfl (by decide) (Nat.le_of_ble_eq_true rfl) (Nat.le_of_ble_eq_true rfl) dX6_init_39 (fun q5 H V => ?_)
  have V := V.to (mRi_new (a := 4) rfl)
  refine m_putF (ty := .array .int) (a := 0) (E' := mRi y [.int 0, .int 0, .ref q1, .ref q2, .ref q3, .ref q4, .ref q5, .int 0, .null, .null, .null, .null, .null, .null, .null, .null, .null, .null, .int 0, .null, .null, .null, .null, .null, .int 0, .int 0, .int 0]) hx hb hts hown hnm9 V (fun _ h => List.mem_cons_of_mem _ (List.mem_append_right _ h)) tyX6 tyX6_ok nmX6 (by omega) rfl rfl 6 (by decide) (Nat.le_of_ble_eq_true rfl) rfl rfl (hts _ (List.mem_of_getElem? (i := 9) rfl)) rfl (by decide +kernel) rfl rfl rfl mRi_put rfl dX6_init_41 (fun H locs V => ?_)
  refine lv_aload_n hx hb dX6_init_44 rfl (lv_at hl 0 rfl) ?_
  refine lv_bipush (v := 32) hx hb dX6_init_45 (by decide) ?_
  refine m_newI hx hb (hts _ (List.mem_of_getElem? (i := 4) rfl)) V (z := 32) (Z := 32) (by decide) rfl (by decide) (Nat.le_of_ble_eq_true rfl) (Nat.le_of_ble_eq_true rfl) dX6_init_47 (fun q6 H V => ?_)
  have V := V.to (mRi_new (a := 5) rfl)
  refine m_putF (ty := .array .int) (a := 0) (E' := mRi y [.int 0, .int 0, .ref q1, .ref q2, .ref q3, .ref q4, .ref q5, .int 0, .ref q6, .null, .null, .null, .null, .null, .null, .null, .null, .null, .int 0, .null, .null, .null, .null, .null, .int 0, .int 0, .int 0]) hx hb hts hown hnm9 V (fun _ h => List.mem_cons_of_mem _ (List.mem_append_right _ h)) tyX6 tyX6_ok nmX6 (by omega) rfl rfl 8 (by decide) (Nat.le_of_ble_eq_true rfl) rfl rfl (hts _ (List.mem_of_getElem? (i := 10) rfl)) rfl (by decide +kernel) rfl rfl rfl mRi_put rfl dX6_init_49 (fun H locs V => ?_)
  refine lv_aload_n hx hb dX6_init_52 rfl (lv_at hl 0 rfl) ?_
  refine lv_bipush (v := 32) hx hb dX6_init_53 (by decide) ?_
  refine m_newI hx hb (hts _ (List.mem_of_getElem? (i := 4) rfl)) V (z := 32) (Z := 32) (by decide) rfl (by decide) (Nat.le_of_ble_eq_true rfl) (Nat.le_of_ble_eq_true rfl) dX6_init_55 (fun q7 H V => ?_)
  have V := V.to (mRi_new (a := 6) rfl)
  refine m_putF (ty := .array .int) (a := 0) (E' := mRi y [.int 0, .int 0, .ref q1, .ref q2, .ref q3, .ref q4, .ref q5, .int 0, .ref q6, .ref q7, .null, .null, .null, .null, .null, .null, .null, .null, .int 0, .null, .null, .null, .null, .null, .int 0, .int 0, .int 0]) hx hb hts hown hnm9 V (fun _ h => List.mem_cons_of_mem _ (List.mem_append_right _ h)) tyX6 tyX6_ok nmX6 (by omega) rfl rfl 9 (by decide) (Nat.le_of_ble_eq_true rfl) rfl rfl (hts _ (List.mem_of_getElem? (i := 11) rfl)) rfl (by decide +kernel) rfl rfl rfl mRi_put rfl dX6_init_57 (fun H locs V => ?_)
  refine lv_aload_n hx hb dX6_init_60 rfl (lv_at hl 0 rfl) ?_
  refine lv_bipush (v := 32) hx hb dX6_init_61 (by decide) ?_
  refine m_newI hx hb (hts _ (List.mem_of_getElem? (i := 4) rfl)) V (z := 32) (Z := 32) (by decide) rfl (by decide) (Nat.le_of_ble_eq_true rfl) (Nat.le_of_ble_eq_true rfl) dX6_init_63 (fun q8 H V => ?_)
  have V := V.to (mRi_new (a := 7) rfl)
  refine m_putF (ty := .array .int) (a := 0) (E' := mRi y [.int 0, .int 0, .ref q1, .ref q2, .ref q3, .ref q4, .ref q5, .int 0, .ref q6, .ref q7, .ref q8, .null, .null, .null, .null, .null, .null, .null, .int 0, .null, .null, .null, .null, .null, .int 0, .int 0, .int 0]) hx hb hts hown hnm9 V (fun _ h => List.mem_cons_of_mem _ (List.mem_append_right _ h)) tyX6 tyX6_ok nmX6 (by omega) rfl rfl 10 (by decide) (Nat.le_of_ble_eq_true rfl) rfl rfl (hts _ (List.mem_of_getElem? (i := 12) rfl)) rfl (by decide +kernel) rfl rfl rfl mRi_put rfl dX6_init_65 (fun H locs V => ?_)
  refine lv_aload_n hx hb dX6_init_68 rfl (lv_at hl 0 rfl) ?_
  refine lv_bipush (v := 16) hx hb dX6_init_69 (by decide) ?_
  refine m_newI hx hb (hts _ (List.mem_of_getElem? (i := 4) rfl)) V (z := 16) (Z := 16) (by decide) rfl (by decide) (Nat.le_of_ble_eq_true rfl) (Nat.le_of_ble_eq_true rfl) dX6_init_71 (fun q9 H V => ?_)
  have V := V.to (mRi_new (a := 8) rfl)
  refine m_putF (ty := .array .int) (a := 0) (E' := mRi y [.int 0, .int 0, .ref q1, .ref q2, .ref q3, .ref q4, .ref q5, .int 0, .ref q6, .ref q7, .ref q8, .ref q9, .null, .null, .null, .null, .null, .null, .int 0, .null, .null, .null, .null, .null, .int 0, .int 0, .int 0]) hx hb hts hown hnm9 V (fun _ h => List.mem_cons_of_mem _ (List.mem_append_right _ h)) tyX6 tyX6_ok nmX6 (by omega) rfl rfl 11 (by decide) (Nat.le_of_ble_eq_true rfl) rfl rfl (hts _ (List.mem_of_getElem? (i := 13) rfl)) rfl (by decide +kernel) rfl rfl rfl mRi_put rfl dX6_init_73 (fun H locs V => ?_)
  refine lv_aload_n hx hb dX6_init_76 rfl (lv_at hl 0 rfl) ?_
  refine lv_bipush (v := 16) hx hb dX6_init_77 (by decide) ?_
  refine m_newI hx hb (hts _ (List.mem_of_getElem? (i := 4) rfl)) V (z := 16) (Z := 16) (by decide) rfl (by decide) (Nat.le_of_ble_eq_true rfl) (Nat.le_of_ble_eq_true rfl) dX6_init_79 (fun q10 H V => ?_)
  have V := V.to (mRi_new (a := 9) rfl)
  refine m_putF (ty := .array .int) (a := 0) (E' := mRi y [.int 0, .int 0, .ref q1, .ref q2, .ref q3, .ref q4, .ref q5, .int 0, .ref q6, .ref q7, .ref q8, .ref q9, .ref q10, .null, .null, .null, .null, .null, .int 0, .null, .null, .null, .null, .null, .int 0, .int 0, .int 0]) hx hb hts hown hnm9 V (fun _ h => List.mem_cons_of_mem _ (List.mem_append_right _ h)) tyX6 tyX6_ok nmX6 (by omega) rfl rfl 12 (by decide) (Nat.le_of_ble_eq_true rfl) rfl rfl (hts _ (List.mem_of_getElem? (i := 14) rfl)) rfl (by decide +kernel) rfl rfl rfl mRi_put rfl dX6_init_81 (fun H locs V => ?_)
  refine lv_aload_n hx hb dX6_init_84 rfl (lv_at hl 0 rfl) ?_
  refine lv_bipush (v := 16) hx hb dX6_init_85 (by decide) ?_
  refine m_newI hx hb (hts _ (List.mem_of_getElem? (i := 4) rfl)) V (z := 16) (Z := 16) (by decide) rfl (by decide) (Nat.le_of_ble_eq_true rfl) (Nat.le_of_ble_eq_true rfl) dX6_init_87 (fun q11 H V => ?_)
  have V := V.to (mRi_new (a := 10) rfl)
  refine m_putF (ty := .array .int) (a := 0) (E' := mRi y [.int 0, .int 0, .ref q1, .ref q2, .ref q3, .ref q4, .ref q5, .int 0, .ref q6, .ref q7, .ref q8, .ref q9, .ref q10, .ref q11, .null, .null, .null, .null, .int 0, .null, .null, .null, .null, .null, .int 0, .int 0, .int 0]) hx hb hts hown hnm9 V (fun _ h => List.mem_cons_of_mem _ (List.mem_append_right _ h)) tyX6 tyX6_ok nmX6 (by omega) rfl rfl 13 (by decide) (Nat.le_of_ble_eq_true rfl) rfl rfl (hts _ (List.mem_of_getElem? (i := 15) rfl)) rfl (by decide +kernel) rfl rfl rfl mRi_put rfl dX6_init_89 (fun H locs V => ?_)
  refine lv_aload_n hx hb dX6_init_92 rfl (lv_at hl 0 rfl) ?_
  refine lv_bipush (v := 16) hx hb dX6_init_93 (by decide) ?_
  refine m_newI hx hb (hts _ (List.mem_of_getElem? (i := 4) rfl)) V (z := 16) (Z := 16) (by decide) rfl (by decide) (Nat.le_of_ble_eq_true rfl) (Nat.le_of_ble_eq_true rfl) dX6_init_95 (fun q12 H V => ?_)
  have V := V.to (mRi_new (a := 11) rfl)
  refine m_putF (ty := .array .int) (a := 0) (E' := mRi y [.int 0, .int 0, .ref q1, .ref q2, .ref q3, .ref q4, .ref q5, .int 0, .ref q6, .ref q7, .ref q8, .ref q9, .ref q10, .ref q11, .ref q12, .null, .null, .null, .int 0, .null, .null, .null, .null, .null, .int 0, .int 0, .int 0]) hx hb hts hown hnm9 V (fun _ h => List.mem_cons_of_mem _ (List.mem_append_right _ h)) tyX6 tyX6_ok nmX6 (by omega) rfl rfl 14 (by decide) (Nat.le_of_ble_eq_true rfl) rfl rfl (hts _ (List.mem_of_getElem? (i := 16) rfl)) rfl (by decide +kernel) rfl rfl rfl mRi_put rfl dX6_init_97 (fun H locs V => ?_)
  refine lv_aload_n hx hb dX6_init_100 rfl (lv_at hl 0 rfl) ?_
  refine lv_bipush (v := 16) hx hb dX6_init_101 (by decide) ?_
  refine m_newI hx hb (hts _ (List.mem_of_getElem? (i := 4) rfl)) V (z := 16) (Z := 16) (by decide) rfl (by decide) (Nat.le_of_ble_eq_true rfl) (Nat.le_of_ble_eq_true rfl) dX6_init_103 (fun q13 H V => ?_)
  have V := V.to (mRi_new (a := 12) rfl)
  refine m_putF (ty := .array .int) (a := 0) (E' := mRi y [.int 0, .int 0, .ref q1, .ref q2, .ref q3, .ref q4, .ref q5, .int 0, .ref q6, .ref q7, .ref q8, .ref q9, .ref q10, .ref q11, .ref q12, .ref q13, .null, .null, .int 0, .null, .null, .null, .null, .null, .int 0, .int 0, .int 0]) hx hb hts hown hnm9 V (fun _ h => List.mem_cons_of_mem _ (List.mem_append_right _ h)) tyX6 tyX6_ok nmX6 (by omega) rfl rfl 15 (by decide) (Nat.le_of_ble_eq_true rfl) rfl rfl (hts _ (List.mem_of_getElem? (i := 17) rfl)) rfl (by decide +kernel) rfl rfl rfl mRi_put rfl dX6_init_105 (fun H locs V => ?_)
  refine lv_aload_n hx hb dX6_init_108 rfl (lv_at hl 0 rfl) ?_
  refine lv_bipush (v := 16) hx hb dX6_init_109 (by decide) ?_
  refine m_newI hx hb (hts _ (List.mem_of_getElem? (i := 4) rfl)) V (z := 16) (Z := 16) (by decide) rfl (by decide) (Nat.le_of_ble_eq_true rfl) (Nat.le_of_ble_eq_true rfl) dX6_init_111 (fun q14 H V => ?_)
  have V := V.to (mRi_new (a := 13) rfl)
  refine m_putF (ty := .array .int) (a := 0) (E' := mRi y [.int 0, .int 0, .ref q1, .ref q2, .ref q3, .ref q4, .ref q5, .int 0, .ref q6, .ref q7, .ref q8, .ref q9, .ref q10, .ref q11, .ref q12, .ref q13, .ref q14, .null, .int 0, .null, .null, .null, .null, .null, .int 0, .int 0, .int 0]) hx hb hts hown hnm9 V (fun _ h => List.mem_cons_of_mem _ (List.mem_append_right _ h)) tyX6 tyX6_ok nmX6 (by omega) rfl rfl 16 (by decide) (Nat.le_of_ble_eq_true rfl) rfl rfl (hts _ (List.mem_of_getElem? (i := 18) rfl)) rfl (by decide +kernel) rfl rfl rfl mRi_put rfl dX6_init_113 (fun H locs V => ?_)
  refine lv_aload_n hx hb dX6_init_116 rfl (lv_at hl 0 rfl) ?_
  refine lv_bipush (v := 16) hx hb dX6_init_117 (by decide) ?_
  refine m_newI hx hb (hts _ (List.mem_of_getElem? (i := 4) rfl)) V (z := 16) (Z := 16) (by decide) rfl (by decide) (Nat.le_of_ble_eq_true rfl) (Nat.le_of_ble_eq_true rfl) dX6_init_119 (fun q15 H V => ?_)
  have V := V.to (mRi_new (a := 14) rfl)
  refine m_putF (ty := .array .int) (a := 0) (E' := mRi y [.int 0, .int 0, .ref q1, .ref q2, .ref q3, .ref q4, .ref q5, .int 0, .ref q6, .ref q7, .ref q8, .ref q9, .ref q10, .ref q11, .ref q12, .ref q13, .ref q14, .ref q15, .int 0, .null, .null, .null, .null, .null, .int 0, .int 0, .int 0]) hx hb hts hown hnm9 V (fun _ h => List.mem_cons_of_mem _ (List.mem_append_right _ h)) tyX6 tyX6_ok nmX6 (by omega) rfl rfl 17 (by decide) (Nat.le_of_ble_eq_true rfl) rfl rfl (hts _ (List.mem_of_getElem? (i := 19) rfl)) rfl (by decide +kernel) rfl rfl rfl mRi_put rfl dX6_init_121 (fun H locs V => ?_)
  refine lv_aload_n hx hb dX6_init_124 rfl (lv_at hl 0 rfl) ?_
  refine lv_bipush (v := 20) hx hb dX6_init_125 (by decide) ?_
  refine m_newI hx hb (hts _ (List.mem_of_getElem? (i := 4) rfl)) V (z := 20) (Z := 20) (by decide) rfl (by decide) (Nat.le_of_ble_eq_true rfl) (Nat.le_of_ble_eq_true rfl) dX6_init_127 (fun q16 H V => ?_)
  have V := V.to (mRi_new (a := 15) rfl)
  refine m_putF (ty := .array .int) (a := 0) (E' := mRi y [.int 0, .int 0, .ref q1, .ref q2, .ref q3, .ref q4, .ref q5, .int 0, .ref q6, .ref q7, .ref q8, .ref q9, .ref q10, .ref q11, .ref q12, .ref q13, .ref q14, .ref q15, .int 0, .ref q16, .null, .null, .null, .null, .int 0, .int 0, .int 0]) hx hb hts hown hnm9 V (fun _ h => List.mem_cons_of_mem _ (List.mem_append_right _ h)) tyX6 tyX6_ok nmX6 (by omega) rfl rfl 19 (by decide) (Nat.le_of_ble_eq_true rfl) rfl rfl (hts _ (List.mem_of_getElem? (i := 20) rfl)) rfl (by decide +kernel) rfl rfl rfl mRi_put rfl dX6_init_129 (fun H locs V => ?_)
  refine lv_aload_n hx hb dX6_init_132 rfl (lv_at hl 0 rfl) ?_
  refine lv_bipush (v := 20) hx hb dX6_init_133 (by decide) ?_
  refine m_newI hx hb (hts _ (List.mem_of_getElem? (i := 4) rfl)) V (z := 20) (Z := 20) (by decide) rfl (by decide) (Nat.le_of_ble_eq_true rfl) (Nat.le_of_ble_eq_true rfl) dX6_init_135 (fun q17 H V => ?_)
  have V := V.to (mRi_new (a := 16) rfl)
  refine m_putF (ty := .array .int) (a := 0) (E' := mRi y [.int 0, .int 0, .ref q1, .ref q2, .ref q3, .ref q4, .ref q5, .int 0, .ref q6, .ref q7, .ref q8, .ref q9, .ref q10, .ref q11, .ref q12, .ref q13, .ref q14, .ref q15, .int 0, .ref q16, .ref q17, .null, .null, .null, .int 0, .int 0, .int 0]) hx hb hts hown hnm9 V (fun _ h => List.mem_cons_of_mem _ (List.mem_append_right _ h)) tyX6 tyX6_ok nmX6 (by omega) rfl rfl 20 (by decide) (Nat.le_of_ble_eq_true rfl) rfl rfl (hts _ (List.mem_of_getElem? (i := 21) rfl)) rfl (by decide +kernel) rfl rfl rfl mRi_put rfl dX6_init_137 (fun H locs V => ?_)
  refine lv_aload_n hx hb dX6_init_140 rfl (lv_at hl 0 rfl) ?_
  refine lv_bipush (v := 20) hx hb dX6_init_141 (by decide) ?_
  refine m_newI hx hb (hts _ (List.mem_of_getElem? (i := 4) rfl)) V (z := 20) (Z := 20) (by decide) rfl (by decide) (Nat.le_of_ble_eq_true rfl) (Nat.le_of_ble_eq_true rfl) dX6_init_143 (fun q18 H V => ?_)
  have V := V.to (mRi_new (a := 17) rfl)
  refine m_putF (ty := .array .int) (a := 0) (E' := mRi y [.int 0, .int 0, .ref q1, .ref q2, .ref q3, .ref q4, .ref q5, .int 0, .ref q6, .ref q7, .ref q8, .ref q9, .ref q10, .ref q11, .ref q12, .ref q13, .ref q14, .ref q15, .int 0, .ref q16, .ref q17, .ref q18, .null, .null, .int 0, .int 0, .int 0]) hx hb hts hown hnm9 V (fun _ h => List.mem_cons_of_mem _ (List.mem_append_right _ h)) tyX6 tyX6_ok nmX6 (by omega) rfl rfl 21 (by decide) (Nat.le_of_ble_eq_true rfl) rfl rfl (hts _ (List.mem_of_getElem? (i := 22) rfl)) rfl (by decide +kernel) rfl rfl rfl mRi_put rfl dX6_init_145 (fun H locs V => ?_)
  refine lv_aload_n hx hb dX6_init_148 rfl (lv_at hl 0 rfl) ?_
  refine lv_bipush (v := 20) hx hb dX6_init_149 (by decide) ?_
  refine m_newI hx hb (hts _ (List.mem_of_getElem? (i := 4) rfl)) V (z := 20) (Z := 20) (by decide) rfl (by decide) (Nat.le_of_ble_eq_true rfl) (Nat.le_of_ble_eq_true rfl) dX6_init_151 (fun q19 H V => ?_)
  have V := V.to (mRi_new (a := 18) rfl)
  refine m_putF (ty := .array .int) (a := 0) (E' := mRi y [.int 0, .int 0, .ref q1, .ref q2, .ref q3, .ref q4, .ref q5, .int 0, .ref q6, .ref q7, .ref q8, .ref q9, .ref q10, .ref q11, .ref q12, .ref q13, .ref q14, .ref q15, .int 0, .ref q16, .ref q17, .ref q18, .ref q19, .null, .int 0, .int 0, .int 0]) hx hb hts hown hnm9 V (fun _ h => List.mem_cons_of_mem _ (List.mem_append_right _ h)) tyX6 tyX6_ok nmX6 (by omega) rfl rfl 22 (by decide) (Nat.le_of_ble_eq_true rfl) rfl rfl (hts _ (List.mem_of_getElem? (i := 23) rfl)) rfl (by decide +kernel) rfl rfl rfl mRi_put rfl dX6_init_153 (fun H locs V => ?_)
  refine lv_aload_n hx hb dX6_init_156 rfl (lv_at hl 0 rfl) ?_
  refine lv_bipush (v := 20) hx hb dX6_init_157 (by decide) ?_
  refine m_newI hx hb (hts _ (List.mem_of_getElem? (i := 4) rfl)) V (z := 20) (Z := 20) (by decide) rfl (by decide) (Nat.le_of_ble_eq_true rfl) (Nat.le_of_ble_eq_true rfl) dX6_init_159 (fun q20 H V => ?_)
  have V := V.to (mRi_new (a := 19) rfl)
  refine m_putF (ty := .array .int) (a := 0) (E' := mRi y [.int 0, .int 0, .ref q1, .ref q2, .ref q3, .ref q4, .ref q5, .int 0, .ref q6, .ref q7, .ref q8, .ref q9, .ref q10, .ref q11, .ref q12, .ref q13, .ref q14, .ref q15, .int 0, .ref q16, .ref q17, .ref q18, .ref q19, .ref q20, .int 0, .int 0, .int 0]) hx hb hts hown hnm9 V (fun _ h => List.mem_cons_of_mem _ (List.mem_append_right _ h)) tyX6 tyX6_ok nmX6 (by omega) rfl rfl 23 (by decide) (Nat.le_of_ble_eq_true rfl) rfl rfl (hts _ (List.mem_of_getElem? (i := 24) rfl)) rfl (by decide +kernel) rfl rfl rfl mRi_put rfl dX6_init_161 (fun H locs V => ?_)
  refine lv_aload_n hx hb dX6_init_164 rfl (lv_at hl 0 rfl) ?_
  refine lv_ldc (v := 100000) hx hb hown (hts _ (List.mem_of_getElem? (i := 25) rfl)) dX6_init_165 ?_
  refine m_putl (a := 0) (E' := mRi y [.int 0, .int 0, .ref q1, .ref q2, .ref q3, .ref q4, .ref q5, .int 0, .ref q6, .ref q7, .ref q8, .ref q9, .ref q10, .ref q11, .ref q12, .ref q13, .ref q14, .ref q15, .int 0, .ref q16, .ref q17, .ref q18, .ref q19, .ref q20, .int 100000, .int 0, .int 0]) hx hb hts hown V (fun _ h => List.mem_cons_of_mem _ (List.mem_append_right _ h)) tyX6 tyX6_ok nmX6 (by omega) rfl rfl 24 (by decide) (Nat.le_of_ble_eq_true rfl) rfl (hts _ (List.mem_of_getElem? (i := 26) rfl)) rfl (by decide +kernel) rfl mRi_put dX6_init_167 (fun H locs V => ?_)
  exact m_vretN (n' := 21) (E' := fun ad => mR y ad iρ) (sz' := 0) hx hb hr hlk (V.to (mRi_end rfl)) rfl (Nat.le_of_ble_eq_true rfl) (Nat.le_of_ble_eq_true rfl) dX6_init_170
def mME (y : Nat → ClassId) (ad : Nat → Nat) (c : Nat) : va_E := if c = 0 then .inr (7, [.int 0, .ref (ad 1), .ref (ad 22)]) else mM y (fun k => ad (k + 1)) 0 iρ iρ (c - 1)
/-- a second part put behind the first: what the world is then -/
theorem two_put1 {y : Nat → ClassId} {ad1 : Nat → Nat} {E : Nat → va_E} {x : va_E} {e' : va_E} (hx : e' = x) : ∀ c, c < 2 + (21 - 1) → va_up (mEd (va_up E 1 iR0) 1 2 (mR y ad1 iρ)) 0 e' c = (if c = 0 then x else mR y ad1 iρ (c - 1)) := fun c hc => by
  subst hx
  by_cases h : c = 0
  · subst h; rw [va_up_self, if_pos rfl]
  · rw [va_up_ne _ _ h, if_neg h]
    unfold mEd
    by_cases h2 : c < 2
    · rw [if_pos h2, if_pos (by omega), show c - 1 = 0 by omega]
    · rw [if_neg h2, show c - 2 + 1 = c - 1 by omega]
theorem mME_end {y : Nat → ClassId} {ad1 ad2 : Nat → Nat} {h0 q1 q2 : Nat} (had1 : ad1 0 = q1) (had2 : ad2 0 = q2) : ∀ c, c < 2 + (21 - 1) + 1 + (21 - 1) → va_up (mEd (va_up (fun c => if c = 0 then .inr (7, [.int 0, .ref q1, .null]) else mR y ad1 iρ (c - 1)) 22 iR0) 22 23 (mR y ad2 iρ)) 0 (.inr (7, [.int 0, .ref q1, .ref q2])) c = mME y (mAd (va_up (mAd (va_up (fun _ => h0) 1 q1) ad1 2) 22 q2) ad2 23) c := fun c hc => by
  generalize hA : mAd (va_up (mAd (va_up (fun _ => h0) 1 q1) ad1 2) 22 q2) ad2 23 = A
  have e1 : ∀ j, j < 21 → A (j + 1) = ad1 j := fun j hj => by
    rw [← hA]
    unfold mAd
    rw [if_pos (by omega), va_up_ne _ _ (by omega)]
    by_cases h : j + 1 < 2
    · rw [if_pos h, show j = 0 by omega]; exact had1.symm
    · rw [if_neg h, show j + 1 - 2 + 1 = j by omega]
  have e2 : ∀ j, j < 21 → A (22 + j) = ad2 j := fun j hj => by
    rw [← hA]
    unfold mAd
    by_cases h : j = 0
    · subst h; rw [if_pos (by omega), va_up_self]; exact had2.symm
    · rw [if_neg (by omega), show 22 + j - 23 + 1 = j by omega]
  by_cases h : c = 0
  · subst h
    rw [va_up_self]
    show _ = (Sum.inr (7, [.int 0, .ref (A 1), .ref (A 22)]) : va_E)
    rw [e1 0 (by omega), e2 0 (by omega), had1, had2]
  · rw [va_up_ne _ _ h]
    unfold mME
    rw [if_neg h]
    by_cases h2 : c < 22
    · rw [mM_0 _ _ _ _ _ (by omega)]
      unfold mEd
      rw [if_pos (by omega), if_neg (by omega), va_up_ne _ _ (by omega), if_neg h]
      exact mR_ad (fun j _ hj => (e1 j hj).symm) _
    · obtain ⟨d, rfl⟩ : ∃ d, c = 22 + d := ⟨c - 22, by omega⟩
      rw [show 22 + d - 1 = 21 + d by omega, mM_1 _ _ _ _ _ (by omega)]
      have e3 : mEd (va_up (fun c => if c = 0 then .inr (7, [.int 0, .ref q1, .null]) else mR y ad1 iρ (c - 1)) 22 iR0) 22 23 (mR y ad2 iρ) (22 + d) = mR y ad2 iρ d := by
        unfold mEd
        by_cases h0 : d = 0
        · subst h0; rw [if_pos (by omega), if_pos (by omega)]
        · rw [if_neg (by omega), show 22 + d - 23 + 1 = d by omega]
      rw [e3]
      refine mR_ad (fun j _ hj => ?_) d
      rw [← e2 j hj, show 21 + j + 1 = 22 + j by omega]
set_option maxHeartbeats 4000000 in
set_option maxRecDepth 100000 in
theorem c_X7_init {l : Launch} {D : va_G} {y : Nat → ClassId} {h0 : Nat} {E0 : va_E} (hE0 : E0 = .inr (7, [.int 0, .null, .null])) : mCN l yX7_init wsX7_init { frames := 2, cells := 42, slots := 750, locals := 32 } D y mXc h0 E0 43 (mME y) 42 750 := by
  subst hE0
  refine m_startN (cc := cX7_init) (maxL := 1) (ret := none) (by decide) rfl (Nat.le_of_ble_eq_true rfl) (fun p e s m args below meth c ls hB hnm9 V Z hl => ?_)
  obtain ⟨hx, hb, hml, hown, hts, hr, hlk⟩ := id hB
  have hl : lv_has ls 1 [(0, .ref h0)] := hl
  refine lv_aload_n hx hb dX7_init_0 rfl (lv_at hl 0 rfl) ?_
  refine m_obj hx hb hml hl.1 hown (hts _ (List.mem_of_getElem? (i := 1) rfl)) (hts _ (List.mem_of_getElem? (i := 2) rfl)) (hts _ (List.mem_of_getElem? (i := 3) rfl)) (Nat.le_of_ble_eq_true rfl) (Nat.le_of_ble_eq_true rfl) dX7_init_1 ?_
  refine lv_aload_n hx hb dX7_init_4 rfl (lv_at hl 0 rfl) ?_
  refine m_new (ci := 6) (fs := [.int 0, .int 0, .null, .null, .null, .null, .null, .int 0, .null, .null, .null, .null, .null, .null, .null, .null, .null, .null, .int 0, .null, .null, .null, .null, .null, .int 0, .int 0, .int 0]) hx hb hts (fun _ h => List.mem_cons_of_mem _ (List.mem_append_left _ (List.mem_append_right _ h))) tyX6 tyX6_ok hown (hts _ (List.mem_of_getElem? (i := 4) rfl)) (hts _ (List.mem_of_getElem? (i := 5) rfl)) (hts _ (List.mem_of_getElem? (i := 6) rfl)) V rfl (by decide +kernel) (Nat.le_of_ble_eq_true rfl) (Nat.le_of_ble_eq_true rfl) dX7_init_5 (fun q1 H V => ?_)
  refine lv_dup hx hb dX7_init_8 rfl ?_
  refine m_callNN (o := 1) ⟨hx, hb, hml, hown, hts⟩ (va_up_self _ _ _).symm (c_X6_init (va_up_self _ _ _)) ⟨va_cnB 0 hts ggX7_init_X6_init rfl rfl rfl (Z.1 _ (List.mem_of_getElem? (i := 4) rfl)) (hts _ (List.mem_of_getElem? (i := 6) rfl)) (by decide +kernel) ⟨Nat.le_of_ble_eq_true rfl, Nat.le_of_ble_eq_true rfl⟩, rfl, (hts _ (List.mem_of_getElem? (i := 9) rfl))⟩ mXc_ok V (by omega) (by omega) (fun U hU hW => mXc_at Z hW) hl.1 (Nat.le_of_ble_eq_true rfl) ⟨Nat.le_of_ble_eq_true rfl, Nat.le_of_ble_eq_true rfl⟩ dX7_init_9 (fun ad1 H locs had1 V => ?_)
  have had1 : ad1 0 = q1 := had1.trans (va_up_self _ _ _)
  refine m_putF (ty := .object "MinuteBankModel$State") (a := 0) (E' := fun c => if c = 0 then .inr (7, [.int 0, .ref q1, .null]) else mR y ad1 iρ (c - 1)) hx hb hts hown hnm9 V (fun _ h => List.mem_cons_of_mem _ (List.mem_append_right _ h)) tyX7 tyX7_ok nmX7 (by omega) rfl rfl 1 (by decide) (Nat.le_of_ble_eq_true rfl) rfl rfl (hts _ (List.mem_of_getElem? (i := 7) rfl)) rfl (by decide +kernel) rfl rfl rfl (two_put1 rfl) rfl dX7_init_12 (fun H locs V => ?_)
  refine lv_aload_n hx hb dX7_init_15 rfl (lv_at hl 0 rfl) ?_
  refine m_new (ci := 6) (fs := [.int 0, .int 0, .null, .null, .null, .null, .null, .int 0, .null, .null, .null, .null, .null, .null, .null, .null, .null, .null, .int 0, .null, .null, .null, .null, .null, .int 0, .int 0, .int 0]) hx hb hts (fun _ h => List.mem_cons_of_mem _ (List.mem_append_left _ (List.mem_append_right _ h))) tyX6 tyX6_ok hown (hts _ (List.mem_of_getElem? (i := 4) rfl)) (hts _ (List.mem_of_getElem? (i := 5) rfl)) (hts _ (List.mem_of_getElem? (i := 6) rfl)) V rfl (by decide +kernel) (Nat.le_of_ble_eq_true rfl) (Nat.le_of_ble_eq_true rfl) dX7_init_16 (fun q2 H V => ?_)
  refine lv_dup hx hb dX7_init_19 rfl ?_
  refine m_callNN (o := 22) ⟨hx, hb, hml, hown, hts⟩ (va_up_self _ _ _).symm (c_X6_init (va_up_self _ _ _)) ⟨va_cnB 0 hts ggX7_init_X6_init rfl rfl rfl (Z.1 _ (List.mem_of_getElem? (i := 4) rfl)) (hts _ (List.mem_of_getElem? (i := 6) rfl)) (by decide +kernel) ⟨Nat.le_of_ble_eq_true rfl, Nat.le_of_ble_eq_true rfl⟩, rfl, (hts _ (List.mem_of_getElem? (i := 9) rfl))⟩ mXc_ok V (by omega) (by omega) (fun U hU hW => mXc_at Z hW) hl.1 (Nat.le_of_ble_eq_true rfl) ⟨Nat.le_of_ble_eq_true rfl, Nat.le_of_ble_eq_true rfl⟩ dX7_init_20 (fun ad2 H locs had2 V => ?_)
  have had2 : ad2 0 = q2 := had2.trans (va_up_self _ _ _)
  refine m_putF (ty := .object "MinuteBankModel$State") (a := 0) (E' := mME y (mAd (va_up (mAd (va_up (fun _ => h0) 1 q1) ad1 2) 22 q2) ad2 23)) hx hb hts hown hnm9 V (fun _ h => List.mem_cons_of_mem _ (List.mem_append_right _ h)) tyX7 tyX7_ok nmX7 (by omega) rfl rfl 2 (by decide) (Nat.le_of_ble_eq_true rfl) rfl rfl (hts _ (List.mem_of_getElem? (i := 8) rfl)) rfl (by decide +kernel) rfl rfl rfl (mME_end had1 had2) rfl dX7_init_23 (fun H locs V => ?_)
  exact m_vretN (n' := 43) (E' := mME y) (sz' := 0) hx hb hr hlk V rfl (Nat.le_of_ble_eq_true rfl) (Nat.le_of_ble_eq_true rfl) dX7_init_26
