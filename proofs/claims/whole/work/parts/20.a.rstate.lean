-- X6_copy
def mCp (α : mSt) (a : Nat) (ρ : mSt) : mSt := fun f k => if f = a ∧ k < mLen a then ρ f k else α f k
def f_X6_copy (N : Nat) (th : Int32) (ρ α : mSt) (a : Nat) : Option (Unit × Int32 × mSt × mSt) := if a < 20 then some ((), th, ρ, mCp α a ρ) else none
set_option maxHeartbeats 4000000 in
set_option maxRecDepth 100000 in
theorem c_X6_copy {l : Launch} {D : va_G} {y : Nat → ClassId} {ad : Nat → Nat} {N : Nat} {th : Int32} {ρ α : mSt} {a : Nat} {q : Unit × Int32 × mSt × mSt} (h : f_X6_copy N th ρ α a = some q) : mC l yX6_copy wsX6_copy { frames := 1, cells := 0, slots := 0, locals := 20 } D y 43 ad mN (mM y ad th ρ α) [.ref (ad (1 + a)), .ref (ad (21 + (1 + a)))] none (mM y ad q.2.1 q.2.2.1 q.2.2.2) 0 0 := by
  refine m_start (cc := cX6_copy) (maxL := 2) (ret := none) (by decide) rfl (Nat.le_of_ble_eq_true rfl) (fun p e s m args below meth c ls hB _ V Z hl => ?_)
  obtain ⟨hx, hb, hml, hown, hts, hr, hlk⟩ := id hB
  have hl : lv_has ls 2 [(0, .ref (ad (1 + a))), (1, .ref (ad (21 + (1 + a))))] := hl
  rw [f_X6_copy] at h
  obtain ⟨ha, h⟩ := gd_s h
  obtain rfl := Option.some.inj h
  refine lv_aload_n hx hb dX6_copy_0 rfl (lv_at hl 0 rfl) ?_
  refine lv_iconst (v := 0) hx hb dX6_copy_1 (by decide) ?_
  refine lv_aload_n hx hb dX6_copy_2 rfl (lv_at hl 1 rfl) ?_
  refine lv_iconst (v := 0) hx hb dX6_copy_3 (by decide) ?_
  refine lv_aload_n hx hb dX6_copy_4 rfl (lv_at hl 0 rfl) ?_
  refine nM_I hx hb V a (1 + a) ha rfl rfl dX6_copy_5 ?_
  obtain ⟨hK, hP, hD, hS, hA⟩ := V
  have hln : mLen a < 2 ^ 31 := by unfold mLen; split <;> (try split) <;> (try split) <;> omega
  have hcl : (Int32.ofNat (mLen a)).toNatClampNeg = mLen a := nI_clamp hln
  refine va_copyi (q0 := 1 + a) (q1 := 21 + (1 + a)) (t0 := 0) (t1 := 0) (ty := .int) (n0 := mLen a) (n1 := mLen a) (f := fun j => ρ a j) (g := fun j => α a j) (c0 := y 0) (c1 := y 0) hx hb (hml.trans hl.1.symm) hown (hts _ (List.mem_of_getElem? (i := 1) rfl)) (hts _ (List.mem_of_getElem? (i := 2) rfl)) (hts _ (List.mem_of_getElem? (i := 3) rfl)) (hts _ (List.mem_of_getElem? (i := 4) rfl)) hK hP hD hS ?_ ?_ rfl rfl rfl (by decide) (by decide) (nI_pos hln) ?_ ?_ (fun _ _ => rfl) (Nat.le_of_ble_eq_true rfl) (Nat.le_of_ble_eq_true rfl) dX6_copy_6 (fun H1 locs1 hP1 hD1 hS1 => ?_)
  · exact (mWl_get (by omega)).trans (by rw [mM_0 y ad th ρ α (by omega), mR_a])
  · exact (mWl_get (by omega)).trans (by rw [mM_1 y ad th ρ α (show 1 + a < 21 by omega), mR_a])
  · rw [hcl]; exact Nat.le_of_eq (Nat.zero_add _)
  · rw [hcl]; exact Nat.le_of_eq (Nat.zero_add _)
  · have hE : ∀ c, c < 43 → va_up (mM y ad th ρ α) (21 + (1 + a)) (.inl (y 0, mLen a, .inl (va_cpy (fun j => ρ a j) (fun j => α a j) (0 : Int32).toNatClampNeg (0 : Int32).toNatClampNeg (Int32.ofNat (mLen a)).toNatClampNeg))) c = mM y ad th ρ (mCp α a ρ) c := by
      refine mM_up1 y ad th ρ α (mCp α a ρ) (c := 1 + a) (by omega) (fun c hc => ?_)
      rw [hcl]
      by_cases h : c = 1 + a
      · subst h
        rw [va_up_self, mR_a]
        congr 4
        funext j
        show (if 0 ≤ j ∧ j < 0 + mLen a then ρ a (0 + (j - 0)) else α a j) = if a = a ∧ j < mLen a then ρ a j else α a j
        by_cases hj : j < mLen a
        · rw [if_pos ⟨Nat.zero_le _, by omega⟩, if_pos ⟨rfl, hj⟩, Nat.zero_add, Nat.sub_zero]
        · rw [if_neg (by omega), if_neg (by omega)]
      · rw [va_up_ne _ _ h]
        have k : ∀ f, f ≠ a → ∀ j, mCp α a ρ f j = α f j := fun f hf j => by simp [mCp, hf]
        unfold mR
        by_cases h0 : c = 0
        · rw [if_pos h0, if_pos h0]
          unfold mR0
          rw [k 20 (by omega), k 21 (by omega), k 22 (by omega), k 23 (by omega), k 24 (by omega), k 25 (by omega), k 26 (by omega)]
        · rw [if_neg h0, if_neg h0]
          congr 4
          funext j
          exact (k (c - 1) (by omega) j).symm
    rw [mWl_set, mWl_congr hE] at hP1 hD1
    exact m_vret hx hb hr hlk ⟨hK, hP1, hD1, hS1, hA⟩ (Nat.zero_le _) (Nat.zero_le _) dX6_copy_9
-- X6_become
def f_X6_become (N : Nat) (th : Int32) (ρ α : mSt)  : Option (Unit × Int32 × mSt × mSt) := (f_X6_copy N th ρ (mUp (mUp (mUp (mUp (mUp (mUp (mUp α 20 0 (ρ 20 0)) 21 0 (ρ 21 0)) 22 0 (ρ 22 0)) 23 0 (ρ 23 0)) 24 0 (ρ 24 0)) 25 0 (ρ 25 0)) 26 0 (ρ 26 0)) 0).bind fun q21 => (f_X6_copy N q21.2.1 q21.2.2.1 q21.2.2.2 1).bind fun q22 => (f_X6_copy N q22.2.1 q22.2.2.1 q22.2.2.2 2).bind fun q23 => (f_X6_copy N q23.2.1 q23.2.2.1 q23.2.2.2 3).bind fun q24 => (f_X6_copy N q24.2.1 q24.2.2.1 q24.2.2.2 4).bind fun q25 => (f_X6_copy N q25.2.1 q25.2.2.1 q25.2.2.2 5).bind fun q26 => (f_X6_copy N q26.2.1 q26.2.2.1 q26.2.2.2 6).bind fun q27 => (f_X6_copy N q27.2.1 q27.2.2.1 q27.2.2.2 7).bind fun q28 => (f_X6_copy N q28.2.1 q28.2.2.1 q28.2.2.2 8).bind fun q29 => (f_X6_copy N q29.2.1 q29.2.2.1 q29.2.2.2 9).bind fun q30 => (f_X6_copy N q30.2.1 q30.2.2.1 q30.2.2.2 10).bind fun q31 => (f_X6_copy N q31.2.1 q31.2.2.1 q31.2.2.2 11).bind fun q32 => (f_X6_copy N q32.2.1 q32.2.2.1 q32.2.2.2 12).bind fun q33 => (f_X6_copy N q33.2.1 q33.2.2.1 q33.2.2.2 13).bind fun q34 => (f_X6_copy N q34.2.1 q34.2.2.1 q34.2.2.2 14).bind fun q35 => (f_X6_copy N q35.2.1 q35.2.2.1 q35.2.2.2 15).bind fun q36 => (f_X6_copy N q36.2.1 q36.2.2.1 q36.2.2.2 16).bind fun q37 => (f_X6_copy N q37.2.1 q37.2.2.1 q37.2.2.2 17).bind fun q38 => (f_X6_copy N q38.2.1 q38.2.2.1 q38.2.2.2 18).bind fun q39 => (f_X6_copy N q39.2.1 q39.2.2.1 q39.2.2.2 19).bind fun q40 => some ((), q40.2.1, q40.2.2.1, q40.2.2.2)
set_option maxHeartbeats 4000000 in
set_option maxRecDepth 100000 in
theorem c_X6_become {l : Launch} {D : va_G} {y : Nat → ClassId} {ad : Nat → Nat} {N : Nat} {th : Int32} {ρ α : mSt}  {q : Unit × Int32 × mSt × mSt} (h : f_X6_become N th ρ α = some q) : mC l yX6_become wsX6_become { frames := 2, cells := 0, slots := 0, locals := 41 } D y 43 ad mN (mM y ad th ρ α) [.ref (ad (21 + 0)), .ref (ad 0)] none (mM y ad q.2.1 q.2.2.1 q.2.2.2) 0 0 := by
  refine m_start (cc := cX6_become) (maxL := 2) (ret := none) (by decide) rfl (Nat.le_of_ble_eq_true rfl) (fun p e s m args below meth c ls hB _ V Z hl => ?_)
  obtain ⟨hx, hb, hml, hown, hts, hr, hlk⟩ := id hB
  have hl : lv_has ls 2 [(0, .ref (ad (21 + 0))), (1, .ref (ad 0))] := hl
  rw [f_X6_become] at h
  refine lv_aload_n hx hb dX6_become_0 rfl (lv_at hl 0 rfl) ?_
  refine lv_aload_n hx hb dX6_become_1 rfl (lv_at hl 1 rfl) ?_
  refine gM_Tp hx hb hts hown (fun _ h => List.mem_cons_of_mem _ (List.mem_append_right _ h)) V 0 (by decide) (hts _ (List.mem_of_getElem? (i := 1) rfl)) (v := .int (ρ 20 0)) rfl dX6_become_2 ?_
  refine pO_Tp hx hb hts hown (fun _ h => List.mem_cons_of_mem _ (List.mem_append_right _ h)) V 0 20 (by decide) (by decide) (hts _ (List.mem_of_getElem? (i := 1) rfl)) rfl (mR0_s20 _ _ _) dX6_become_5 (fun H locs V => ?_)
  refine lv_aload_n hx hb dX6_become_8 rfl (lv_at hl 0 rfl) ?_
  refine lv_aload_n hx hb dX6_become_9 rfl (lv_at hl 1 rfl) ?_
  refine gM_Tp hx hb hts hown (fun _ h => List.mem_cons_of_mem _ (List.mem_append_right _ h)) V 1 (by decide) (hts _ (List.mem_of_getElem? (i := 2) rfl)) (v := .int (ρ 21 0)) rfl dX6_become_10 ?_
  refine pO_Tp hx hb hts hown (fun _ h => List.mem_cons_of_mem _ (List.mem_append_right _ h)) V 1 21 (by decide) (by decide) (hts _ (List.mem_of_getElem? (i := 2) rfl)) rfl (mR0_s21 _ _ _) dX6_become_13 (fun H locs V => ?_)
  refine lv_aload_n hx hb dX6_become_16 rfl (lv_at hl 0 rfl) ?_
  refine lv_aload_n hx hb dX6_become_17 rfl (lv_at hl 1 rfl) ?_
  refine gM_Tp hx hb hts hown (fun _ h => List.mem_cons_of_mem _ (List.mem_append_right _ h)) V 7 (by decide) (hts _ (List.mem_of_getElem? (i := 3) rfl)) (v := .int (ρ 22 0)) rfl dX6_become_18 ?_
  refine pO_Tp hx hb hts hown (fun _ h => List.mem_cons_of_mem _ (List.mem_append_right _ h)) V 7 22 (by decide) (by decide) (hts _ (List.mem_of_getElem? (i := 3) rfl)) rfl (mR0_s22 _ _ _) dX6_become_21 (fun H locs V => ?_)
  refine lv_aload_n hx hb dX6_become_24 rfl (lv_at hl 0 rfl) ?_
  refine lv_aload_n hx hb dX6_become_25 rfl (lv_at hl 1 rfl) ?_
  refine gM_Tp hx hb hts hown (fun _ h => List.mem_cons_of_mem _ (List.mem_append_right _ h)) V 18 (by decide) (hts _ (List.mem_of_getElem? (i := 4) rfl)) (v := .int (ρ 23 0)) rfl dX6_become_26 ?_
  refine pO_Tp hx hb hts hown (fun _ h => List.mem_cons_of_mem _ (List.mem_append_right _ h)) V 18 23 (by decide) (by decide) (hts _ (List.mem_of_getElem? (i := 4) rfl)) rfl (mR0_s23 _ _ _) dX6_become_29 (fun H locs V => ?_)
  refine lv_aload_n hx hb dX6_become_32 rfl (lv_at hl 0 rfl) ?_
  refine lv_aload_n hx hb dX6_become_33 rfl (lv_at hl 1 rfl) ?_
  refine gM_Tp hx hb hts hown (fun _ h => List.mem_cons_of_mem _ (List.mem_append_right _ h)) V 24 (by decide) (hts _ (List.mem_of_getElem? (i := 5) rfl)) (v := .int (ρ 24 0)) rfl dX6_become_34 ?_
  refine pO_Tp hx hb hts hown (fun _ h => List.mem_cons_of_mem _ (List.mem_append_right _ h)) V 24 24 (by decide) (by decide) (hts _ (List.mem_of_getElem? (i := 5) rfl)) rfl (mR0_s24 _ _ _) dX6_become_37 (fun H locs V => ?_)
  refine lv_aload_n hx hb dX6_become_40 rfl (lv_at hl 0 rfl) ?_
  refine lv_aload_n hx hb dX6_become_41 rfl (lv_at hl 1 rfl) ?_
  refine gM_Tp hx hb hts hown (fun _ h => List.mem_cons_of_mem _ (List.mem_append_right _ h)) V 25 (by decide) (hts _ (List.mem_of_getElem? (i := 6) rfl)) (v := .int (ρ 25 0)) rfl dX6_become_42 ?_
  refine pO_Tp hx hb hts hown (fun _ h => List.mem_cons_of_mem _ (List.mem_append_right _ h)) V 25 25 (by decide) (by decide) (hts _ (List.mem_of_getElem? (i := 6) rfl)) rfl (mR0_s25 _ _ _) dX6_become_45 (fun H locs V => ?_)
  refine lv_aload_n hx hb dX6_become_48 rfl (lv_at hl 0 rfl) ?_
  refine lv_aload_n hx hb dX6_become_49 rfl (lv_at hl 1 rfl) ?_
  refine gM_Tp hx hb hts hown (fun _ h => List.mem_cons_of_mem _ (List.mem_append_right _ h)) V 26 (by decide) (hts _ (List.mem_of_getElem? (i := 7) rfl)) (v := .int (ρ 26 0)) rfl dX6_become_50 ?_
  refine pO_Tp hx hb hts hown (fun _ h => List.mem_cons_of_mem _ (List.mem_append_right _ h)) V 26 26 (by decide) (by decide) (hts _ (List.mem_of_getElem? (i := 7) rfl)) rfl (mR0_s26 _ _ _) dX6_become_53 (fun H locs V => ?_)
  refine lv_aload_n hx hb dX6_become_56 rfl (lv_at hl 1 rfl) ?_
  refine gM_Tp hx hb hts hown (fun _ h => List.mem_cons_of_mem _ (List.mem_append_right _ h)) V 2 (by decide) (hts _ (List.mem_of_getElem? (i := 8) rfl)) (v := .ref (ad 1)) rfl dX6_become_57 ?_
  refine lv_aload_n hx hb dX6_become_60 rfl (lv_at hl 0 rfl) ?_
  refine gO_Tp hx hb hts hown (fun _ h => List.mem_cons_of_mem _ (List.mem_append_right _ h)) V 2 (by decide) (hts _ (List.mem_of_getElem? (i := 8) rfl)) (v := .ref (ad (21 + 1))) rfl dX6_become_61 ?_
  obtain ⟨q21, hq21, h⟩ := bd_s h
  refine kMMs (As := [.ref (ad 1), .ref (ad (21 + 1))]) (rest := []) ⟨hx, hb, hml, hown, hts⟩ Z V (c_X6_copy (l := l) (D := D) (y := y) (ad := ad) hq21) (va_cwS 2 hts gX6_become_X6_copy rfl rfl rfl (by decide +kernel) ⟨Nat.le_of_ble_eq_true rfl, Nat.le_of_ble_eq_true rfl⟩) rfl hl.1 rfl (Nat.le_of_ble_eq_true rfl) ⟨Nat.zero_le _, Nat.zero_le _⟩ rfl dX6_become_64 (fun H locs V => ?_)
  refine lv_aload_n hx hb dX6_become_67 rfl (lv_at hl 1 rfl) ?_
  refine gM_Tp hx hb hts hown (fun _ h => List.mem_cons_of_mem _ (List.mem_append_right _ h)) V 3 (by decide) (hts _ (List.mem_of_getElem? (i := 9) rfl)) (v := .ref (ad 2)) rfl dX6_become_68 ?_
  refine lv_aload_n hx hb dX6_become_71 rfl (lv_at hl 0 rfl) ?_
  refine gO_Tp hx hb hts hown (fun _ h => List.mem_cons_of_mem _ (List.mem_append_right _ h)) V 3 (by decide) (hts _ (List.mem_of_getElem? (i := 9) rfl)) (v := .ref (ad (21 + 2))) rfl dX6_become_72 ?_
  obtain ⟨q22, hq22, h⟩ := bd_s h
  refine kMMs (As := [.ref (ad 2), .ref (ad (21 + 2))]) (rest := []) ⟨hx, hb, hml, hown, hts⟩ Z V (c_X6_copy (l := l) (D := D) (y := y) (ad := ad) hq22) (va_cwS 2 hts gX6_become_X6_copy rfl rfl rfl (by decide +kernel) ⟨Nat.le_of_ble_eq_true rfl, Nat.le_of_ble_eq_true rfl⟩) rfl hl.1 rfl (Nat.le_of_ble_eq_true rfl) ⟨Nat.zero_le _, Nat.zero_le _⟩ rfl dX6_become_75 (fun H locs V => ?_)
  refine lv_aload_n hx hb dX6_become_78 rfl (lv_at hl 1 rfl) ?_
  refine gM_Tp hx hb hts hown (fun _ h => List.mem_cons_of_mem _ (List.mem_append_right _ h)) V 4 (by decide) (hts _ (List.mem_of_getElem? (i := 10) rfl)) (v := .ref (ad 3)) rfl dX6_become_79 ?_
  refine lv_aload_n hx hb dX6_become_82 rfl (lv_at hl 0 rfl) ?_
  refine gO_Tp hx hb hts hown (fun _ h => List.mem_cons_of_mem _ (List.mem_append_right _ h)) V 4 (by decide) (hts _ (List.mem_of_getElem? (i := 10) rfl)) (v := .ref (ad (21 + 3))) rfl dX6_become_83 ?_
  obtain ⟨q23, hq23, h⟩ := bd_s h
  refine kMMs (As := [.ref (ad 3), .ref (ad (21 + 3))]) (rest := []) ⟨hx, hb, hml, hown, hts⟩ Z V (c_X6_copy (l := l) (D := D) (y := y) (ad := ad) hq23) (va_cwS 2 hts gX6_become_X6_copy rfl rfl rfl (by decide +kernel) ⟨Nat.le_of_ble_eq_true rfl, Nat.le_of_ble_eq_true rfl⟩) rfl hl.1 rfl (Nat.le_of_ble_eq_true rfl) ⟨Nat.zero_le _, Nat.zero_le _⟩ rfl dX6_become_86 (fun H locs V => ?_)
  refine lv_aload_n hx hb dX6_become_89 rfl (lv_at hl 1 rfl) ?_
  refine gM_Tp hx hb hts hown (fun _ h => List.mem_cons_of_mem _ (List.mem_append_right _ h)) V 5 (by decide) (hts _ (List.mem_of_getElem? (i := 11) rfl)) (v := .ref (ad 4)) rfl dX6_become_90 ?_
  refine lv_aload_n hx hb dX6_become_93 rfl (lv_at hl 0 rfl) ?_
  refine gO_Tp hx hb hts hown (fun _ h => List.mem_cons_of_mem _ (List.mem_append_right _ h)) V 5 (by decide) (hts _ (List.mem_of_getElem? (i := 11) rfl)) (v := .ref (ad (21 + 4))) rfl dX6_become_94 ?_
  obtain ⟨q24, hq24, h⟩ := bd_s h
  refine kMMs (As := [.ref (ad 4), .ref (ad (21 + 4))]) (rest := []) ⟨hx, hb, hml, hown, hts⟩ Z V (c_X6_copy (l := l) (D := D) (y := y) (ad := ad) hq24) (va_cwS 2 hts gX6_become_X6_copy rfl rfl rfl (by decide +kernel) ⟨Nat.le_of_ble_eq_true rfl, Nat.le_of_ble_eq_true rfl⟩) rfl hl.1 rfl (Nat.le_of_ble_eq_true rfl) ⟨Nat.zero_le _, Nat.zero_le _⟩ rfl dX6_become_97 (fun H locs V => ?_)
  refine lv_aload_n hx hb dX6_become_100 rfl (lv_at hl 1 rfl) ?_
  refine gM_Tp hx hb hts hown (fun _ h => List.mem_cons_of_mem _ (List.mem_append_right _ h)) V 6 (by decide) (hts _ (List.mem_of_getElem? (i := 12) rfl)) (v := .ref (ad 5)) rfl dX6_become_101 ?_
  refine lv_aload_n hx hb dX6_become_104 rfl (lv_at hl 0 rfl) ?_
  refine gO_Tp hx hb hts hown (fun _ h => List.mem_cons_of_mem _ (List.mem_append_right _ h)) V 6 (by decide) (hts _ (List.mem_of_getElem? (i := 12) rfl)) (v := .ref (ad (21 + 5))) rfl dX6_become_105 ?_
  obtain ⟨q25, hq25, h⟩ := bd_s h
  refine kMMs (As := [.ref (ad 5), .ref (ad (21 + 5))]) (rest := []) ⟨hx, hb, hml, hown, hts⟩ Z V (c_X6_copy (l := l) (D := D) (y := y) (ad := ad) hq25) (va_cwS 2 hts gX6_become_X6_copy rfl rfl rfl (by decide +kernel) ⟨Nat.le_of_ble_eq_true rfl, Nat.le_of_ble_eq_true rfl⟩) rfl hl.1 rfl (Nat.le_of_ble_eq_true rfl) ⟨Nat.zero_le _, Nat.zero_le _⟩ rfl dX6_become_108 (fun H locs V => ?_)
  refine lv_aload_n hx hb dX6_become_111 rfl (lv_at hl 1 rfl) ?_
  refine gM_Tp hx hb hts hown (fun _ h => List.mem_cons_of_mem _ (List.mem_append_right _ h)) V 8 (by decide) (hts _ (List.mem_of_getElem? (i := 13) rfl)) (v := .ref (ad 6)) rfl dX6_become_112 ?_
  refine lv_aload_n hx hb dX6_become_115 rfl (lv_at hl 0 rfl) ?_
  refine gO_Tp hx hb hts hown (fun _ h => List.mem_cons_of_mem _ (List.mem_append_right _ h)) V 8 (by decide) (hts _ (List.mem_of_getElem? (i := 13) rfl)) (v := .ref (ad (21 + 6))) rfl dX6_become_116 ?_
  obtain ⟨q26, hq26, h⟩ := bd_s h
  refine kMMs (As := [.ref (ad 6), .ref (ad (21 + 6))]) (rest := []) ⟨hx, hb, hml, hown, hts⟩ Z V (c_X6_copy (l := l) (D := D) (y := y) (ad := ad) hq26) (va_cwS 2 hts gX6_become_X6_copy rfl rfl rfl (by decide +kernel) ⟨Nat.le_of_ble_eq_true rfl, Nat.le_of_ble_eq_true rfl⟩) rfl hl.1 rfl (Nat.le_of_ble_eq_true rfl) ⟨Nat.zero_le _, Nat.zero_le _⟩ rfl dX6_become_119 (fun H locs V => ?_)
  refine lv_aload_n hx hb dX6_become_122 rfl (lv_at hl 1 rfl) ?_
  refine gM_Tp hx hb hts hown (fun _ h => List.mem_cons_of_mem _ (List.mem_append_right _ h)) V 9 (by decide) (hts _ (List.mem_of_getElem? (i := 14) rfl)) (v := .ref (ad 7)) rfl dX6_become_123 ?_
  refine lv_aload_n hx hb dX6_become_126 rfl (lv_at hl 0 rfl) ?_
  refine gO_Tp hx hb hts hown (fun _ h => List.mem_cons_of_mem _ (List.mem_append_right _ h)) V 9 (by decide) (hts _ (List.mem_of_getElem? (i := 14) rfl)) (v := .ref (ad (21 + 7))) rfl dX6_become_127 ?_
  obtain ⟨q27, hq27, h⟩ := bd_s h
  refine kMMs (As := [.ref (ad 7), .ref (ad (21 + 7))]) (rest := []) ⟨hx, hb, hml, hown, hts⟩ Z V (c_X6_copy (l := l) (D := D) (y := y) (ad := ad) hq27) (va_cwS 2 hts gX6_become_X6_copy rfl rfl rfl (by decide +kernel) ⟨Nat.le_of_ble_eq_true rfl, Nat.le_of_ble_eq_true rfl⟩) rfl hl.1 rfl (Nat.le_of_ble_eq_true rfl) ⟨Nat.zero_le _, Nat.zero_le _⟩ rfl dX6_become_130 (fun H locs V => ?_)
  refine lv_aload_n hx hb dX6_become_133 rfl (lv_at hl 1 rfl) ?_
  refine gM_Tp hx hb hts hown (fun _ h => List.mem_cons_of_mem _ (List.mem_append_right _ h)) V 10 (by decide) (hts _ (List.mem_of_getElem? (i := 15) rfl)) (v := .ref (ad 8)) rfl dX6_become_134 ?_
  refine lv_aload_n hx hb dX6_become_137 rfl (lv_at hl 0 rfl) ?_
  refine gO_Tp hx hb hts hown (fun _ h => List.mem_cons_of_mem _ (List.mem_append_right _ h)) V 10 (by decide) (hts _ (List.mem_of_getElem? (i := 15) rfl)) (v := .ref (ad (21 + 8))) rfl dX6_become_138 ?_
  obtain ⟨q28, hq28, h⟩ := bd_s h
  refine kMMs (As := [.ref (ad 8), .ref (ad (21 + 8))]) (rest := []) ⟨hx, hb, hml, hown, hts⟩ Z V (c_X6_copy (l := l) (D := D) (y := y) (ad := ad) hq28) (va_cwS 2 hts gX6_become_X6_copy rfl rfl rfl (by decide +kernel) ⟨Nat.le_of_ble_eq_true rfl, Nat.le_of_ble_eq_true rfl⟩) rfl hl.1 rfl (Nat.le_of_ble_eq_true rfl) ⟨Nat.zero_le _, Nat.zero_le _⟩ rfl dX6_become_141 (fun H locs V => ?_)
  refine lv_aload_n hx hb dX6_become_144 rfl (lv_at hl 1 rfl) ?_
  refine gM_Tp hx hb hts hown (fun _ h => List.mem_cons_of_mem _ (List.mem_append_right _ h)) V 11 (by decide) (hts _ (List.mem_of_getElem? (i := 16) rfl)) (v := .ref (ad 9)) rfl dX6_become_145 ?_
  refine lv_aload_n hx hb dX6_become_148 rfl (lv_at hl 0 rfl) ?_
  refine gO_Tp hx hb hts hown (fun _ h => List.mem_cons_of_mem _ (List.mem_append_right _ h)) V 11 (by decide) (hts _ (List.mem_of_getElem? (i := 16) rfl)) (v := .ref (ad (21 + 9))) rfl dX6_become_149 ?_
  obtain ⟨q29, hq29, h⟩ := bd_s h
  refine kMMs (As := [.ref (ad 9), .ref (ad (21 + 9))]) (rest := []) ⟨hx, hb, hml, hown, hts⟩ Z V (c_X6_copy (l := l) (D := D) (y := y) (ad := ad) hq29) (va_cwS 2 hts gX6_become_X6_copy rfl rfl rfl (by decide +kernel) ⟨Nat.le_of_ble_eq_true rfl, Nat.le_of_ble_eq_true rfl⟩) rfl hl.1 rfl (Nat.le_of_ble_eq_true rfl) ⟨Nat.zero_le _, Nat.zero_le _⟩ rfl dX6_become_152 (fun H locs V => ?_)
  refine lv_aload_n hx hb dX6_become_155 rfl (lv_at hl 1 rfl) ?_
  refine gM_Tp hx hb hts hown (fun _ h => List.mem_cons_of_mem _ (List.mem_append_right _ h)) V 12 (by decide) (hts _ (List.mem_of_getElem? (i := 17) rfl)) (v := .ref (ad 10)) rfl dX6_become_156 ?_
  refine lv_aload_n hx hb dX6_become_159 rfl (lv_at hl 0 rfl) ?_
  refine gO_Tp hx hb hts hown (fun _ h => List.mem_cons_of_mem _ (List.mem_append_right _ h)) V 12 (by decide) (hts _ (List.mem_of_getElem? (i := 17) rfl)) (v := .ref (ad (21 + 10))) rfl dX6_become_160 ?_
  obtain ⟨q30, hq30, h⟩ := bd_s h
  refine kMMs (As := [.ref (ad 10), .ref (ad (21 + 10))]) (rest := []) ⟨hx, hb, hml, hown, hts⟩ Z V (c_X6_copy (l := l) (D := D) (y := y) (ad := ad) hq30) (va_cwS 2 hts gX6_become_X6_copy rfl rfl rfl (by decide +kernel) ⟨Nat.le_of_ble_eq_true rfl, Nat.le_of_ble_eq_true rfl⟩) rfl hl.1 rfl (Nat.le_of_ble_eq_true rfl) ⟨Nat.zero_le _, Nat.zero_le _⟩ rfl dX6_become_163 (fun H locs V => ?_)
  refine lv_aload_n hx hb dX6_become_166 rfl (lv_at hl 1 rfl) ?_
  refine gM_Tp hx hb hts hown (fun _ h => List.mem_cons_of_mem _ (List.mem_append_right _ h)) V 13 (by decide) (hts _ (List.mem_of_getElem? (i := 18) rfl)) (v := .ref (ad 11)) rfl dX6_become_167 ?_
  refine lv_aload_n hx hb dX6_become_170 rfl (lv_at hl 0 rfl) ?_
  refine gO_Tp hx hb hts hown (fun _ h => List.mem_cons_of_mem _ (List.mem_append_right _ h)) V 13 (by decide) (hts _ (List.mem_of_getElem? (i := 18) rfl)) (v := .ref (ad (21 + 11))) rfl dX6_become_171 ?_
  obtain ⟨q31, hq31, h⟩ := bd_s h
  refine kMMs (As := [.ref (ad 11), .ref (ad (21 + 11))]) (rest := []) ⟨hx, hb, hml, hown, hts⟩ Z V (c_X6_copy (l := l) (D := D) (y := y) (ad := ad) hq31) (va_cwS 2 hts gX6_become_X6_copy rfl rfl rfl (by decide +kernel) ⟨Nat.le_of_ble_eq_true rfl, Nat.le_of_ble_eq_true rfl⟩) rfl hl.1 rfl (Nat.le_of_ble_eq_true rfl) ⟨Nat.zero_le _, Nat.zero_le _⟩ rfl dX6_become_174 (fun H locs V => ?_)
  refine lv_aload_n hx hb dX6_become_177 rfl (lv_at hl 1 rfl) ?_
  refine gM_Tp hx hb hts hown (fun _ h => List.mem_cons_of_mem _ (List.mem_append_right _ h)) V 14 (by decide) (hts _ (List.mem_of_getElem? (i := 19) rfl)) (v := .ref (ad 12)) rfl dX6_become_178 ?_
  refine lv_aload_n hx hb dX6_become_181 rfl (lv_at hl 0 rfl) ?_
  refine gO_Tp hx hb hts hown (fun _ h => List.mem_cons_of_mem _ (List.mem_append_right _ h)) V 14 (by decide) (hts _ (List.mem_of_getElem? (i := 19) rfl)) (v := .ref (ad (21 + 12))) rfl dX6_become_182 ?_
  obtain ⟨q32, hq32, h⟩ := bd_s h
  refine kMMs (As := [.ref (ad 12), .ref (ad (21 + 12))]) (rest := []) ⟨hx, hb, hml, hown, hts⟩ Z V (c_X6_copy (l := l) (D := D) (y := y) (ad := ad) hq32) (va_cwS 2 hts gX6_become_X6_copy rfl rfl rfl (by decide +kernel) ⟨Nat.le_of_ble_eq_true rfl, Nat.le_of_ble_eq_true rfl⟩) rfl hl.1 rfl (Nat.le_of_ble_eq_true rfl) ⟨Nat.zero_le _, Nat.zero_le _⟩ rfl dX6_become_185 (fun H locs V => ?_)
  refine lv_aload_n hx hb dX6_become_188 rfl (lv_at hl 1 rfl) ?_
  refine gM_Tp hx hb hts hown (fun _ h => List.mem_cons_of_mem _ (List.mem_append_right _ h)) V 15 (by decide) (hts _ (List.mem_of_getElem? (i := 20) rfl)) (v := .ref (ad 13)) rfl dX6_become_189 ?_
  refine lv_aload_n hx hb dX6_become_192 rfl (lv_at hl 0 rfl) ?_
  refine gO_Tp hx hb hts hown (fun _ h => List.mem_cons_of_mem _ (List.mem_append_right _ h)) V 15 (by decide) (hts _ (List.mem_of_getElem? (i := 20) rfl)) (v := .ref (ad (21 + 13))) rfl dX6_become_193 ?_
  obtain ⟨q33, hq33, h⟩ := bd_s h
  refine kMMs (As := [.ref (ad 13), .ref (ad (21 + 13))]) (rest := []) ⟨hx, hb, hml, hown, hts⟩ Z V (c_X6_copy (l := l) (D := D) (y := y) (ad := ad) hq33) (va_cwS 2 hts gX6_become_X6_copy rfl rfl rfl (by decide +kernel) ⟨Nat.le_of_ble_eq_true rfl, Nat.le_of_ble_eq_true rfl⟩) rfl hl.1 rfl (Nat.le_of_ble_eq_true rfl) ⟨Nat.zero_le _, Nat.zero_le _⟩ rfl dX6_become_196 (fun H locs V => ?_)
  refine lv_aload_n hx hb dX6_become_199 rfl (lv_at hl 1 rfl) ?_
  refine gM_Tp hx hb hts hown (fun _ h => List.mem_cons_of_mem _ (List.mem_append_right _ h)) V 16 (by decide) (hts _ (List.mem_of_getElem? (i := 21) rfl)) (v := .ref (ad 14)) rfl dX6_become_200 ?_
  refine lv_aload_n hx hb dX6_become_203 rfl (lv_at hl 0 rfl) ?_
  refine gO_Tp hx hb hts hown (fun _ h => List.mem_cons_of_mem _ (List.mem_append_right _ h)) V 16 (by decide) (hts _ (List.mem_of_getElem? (i := 21) rfl)) (v := .ref (ad (21 + 14))) rfl dX6_become_204 ?_
  obtain ⟨q34, hq34, h⟩ := bd_s h
  refine kMMs (As := [.ref (ad 14), .ref (ad (21 + 14))]) (rest := []) ⟨hx, hb, hml, hown, hts⟩ Z V (c_X6_copy (l := l) (D := D) (y := y) (ad := ad) hq34) (va_cwS 2 hts gX6_become_X6_copy rfl rfl rfl (by decide +kernel) ⟨Nat.le_of_ble_eq_true rfl, Nat.le_of_ble_eq_true rfl⟩) rfl hl.1 rfl (Nat.le_of_ble_eq_true rfl) ⟨Nat.zero_le _, Nat.zero_le _⟩ rfl dX6_become_207 (fun H locs V => ?_)
  refine lv_aload_n hx hb dX6_become_210 rfl (lv_at hl 1 rfl) ?_
  refine gM_Tp hx hb hts hown (fun _ h => List.mem_cons_of_mem _ (List.mem_append_right _ h)) V 17 (by decide) (hts _ (List.mem_of_getElem? (i := 22) rfl)) (v := .ref (ad 15)) rfl dX6_become_211 ?_
  refine lv_aload_n hx hb dX6_become_214 rfl (lv_at hl 0 rfl) ?_
  refine gO_Tp hx hb hts hown (fun _ h => List.mem_cons_of_mem _ (List.mem_append_right _ h)) V 17 (by decide) (hts _ (List.mem_of_getElem? (i := 22) rfl)) (v := .ref (ad (21 + 15))) rfl dX6_become_215 ?_
  obtain ⟨q35, hq35, h⟩ := bd_s h
  refine kMMs (As := [.ref (ad 15), .ref (ad (21 + 15))]) (rest := []) ⟨hx, hb, hml, hown, hts⟩ Z V (c_X6_copy (l := l) (D := D) (y := y) (ad := ad) hq35) (va_cwS 2 hts gX6_become_X6_copy rfl rfl rfl (by decide +kernel) ⟨Nat.le_of_ble_eq_true rfl, Nat.le_of_ble_eq_true rfl⟩) rfl hl.1 rfl (Nat.le_of_ble_eq_true rfl) ⟨Nat.zero_le _, Nat.zero_le _⟩ rfl dX6_become_218 (fun H locs V => ?_)
  refine lv_aload_n hx hb dX6_become_221 rfl (lv_at hl 1 rfl) ?_
  refine gM_Tp hx hb hts hown (fun _ h => List.mem_cons_of_mem _ (List.mem_append_right _ h)) V 19 (by decide) (hts _ (List.mem_of_getElem? (i := 23) rfl)) (v := .ref (ad 16)) rfl dX6_become_222 ?_
  refine lv_aload_n hx hb dX6_become_225 rfl (lv_at hl 0 rfl) ?_
  refine gO_Tp hx hb hts hown (fun _ h => List.mem_cons_of_mem _ (List.mem_append_right _ h)) V 19 (by decide) (hts _ (List.mem_of_getElem? (i := 23) rfl)) (v := .ref (ad (21 + 16))) rfl dX6_become_226 ?_
  obtain ⟨q36, hq36, h⟩ := bd_s h
  refine kMMs (As := [.ref (ad 16), .ref (ad (21 + 16))]) (rest := []) ⟨hx, hb, hml, hown, hts⟩ Z V (c_X6_copy (l := l) (D := D) (y := y) (ad := ad) hq36) (va_cwS 2 hts gX6_become_X6_copy rfl rfl rfl (by decide +kernel) ⟨Nat.le_of_ble_eq_true rfl, Nat.le_of_ble_eq_true rfl⟩) rfl hl.1 rfl (Nat.le_of_ble_eq_true rfl) ⟨Nat.zero_le _, Nat.zero_le _⟩ rfl dX6_become_229 (fun H locs V => ?_)
  refine lv_aload_n hx hb dX6_become_232 rfl (lv_at hl 1 rfl) ?_
  refine gM_Tp hx hb hts hown (fun _ h => List.mem_cons_of_mem _ (List.mem_append_right _ h)) V 20 (by decide) (hts _ (List.mem_of_getElem? (i := 24) rfl)) (v := .ref (ad 17)) rfl dX6_become_233 ?_
  refine lv_aload_n hx hb dX6_become_236 rfl (lv_at hl 0 rfl) ?_
  refine gO_Tp hx hb hts hown (fun _ h => List.mem_cons_of_mem _ (List.mem_append_right _ h)) V 20 (by decide) (hts _ (List.mem_of_getElem? (i := 24) rfl)) (v := .ref (ad (21 + 17))) rfl dX6_become_237 ?_
  obtain ⟨q37, hq37, h⟩ := bd_s h
  refine kMMs (As := [.ref (ad 17), .ref (ad (21 + 17))]) (rest := []) ⟨hx, hb, hml, hown, hts⟩ Z V (c_X6_copy (l := l) (D := D) (y := y) (ad := ad) hq37) (va_cwS 2 hts gX6_become_X6_copy rfl rfl rfl (by decide +kernel) ⟨Nat.le_of_ble_eq_true rfl, Nat.le_of_ble_eq_true rfl⟩) rfl hl.1 rfl (Nat.le_of_ble_eq_true rfl) ⟨Nat.zero_le _, Nat.zero_le _⟩ rfl dX6_become_240 (fun H locs V => ?_)
  refine lv_aload_n hx hb dX6_become_243 rfl (lv_at hl 1 rfl) ?_
  refine gM_Tp hx hb hts hown (fun _ h => List.mem_cons_of_mem _ (List.mem_append_right _ h)) V 21 (by decide) (hts _ (List.mem_of_getElem? (i := 25) rfl)) (v := .ref (ad 18)) rfl dX6_become_244 ?_
  refine lv_aload_n hx hb dX6_become_247 rfl (lv_at hl 0 rfl) ?_
  refine gO_Tp hx hb hts hown (fun _ h => List.mem_cons_of_mem _ (List.mem_append_right _ h)) V 21 (by decide) (hts _ (List.mem_of_getElem? (i := 25) rfl)) (v := .ref (ad (21 + 18))) rfl dX6_become_248 ?_
  obtain ⟨q38, hq38, h⟩ := bd_s h
  refine kMMs (As := [.ref (ad 18), .ref (ad (21 + 18))]) (rest := []) ⟨hx, hb, hml, hown, hts⟩ Z V (c_X6_copy (l := l) (D := D) (y := y) (ad := ad) hq38) (va_cwS 2 hts gX6_become_X6_copy rfl rfl rfl (by decide +kernel) ⟨Nat.le_of_ble_eq_true rfl, Nat.le_of_ble_eq_true rfl⟩) rfl hl.1 rfl (Nat.le_of_ble_eq_true rfl) ⟨Nat.zero_le _, Nat.zero_le _⟩ rfl dX6_become_251 (fun H locs V => ?_)
  refine lv_aload_n hx hb dX6_become_254 rfl (lv_at hl 1 rfl) ?_
  refine gM_Tp hx hb hts hown (fun _ h => List.mem_cons_of_mem _ (List.mem_append_right _ h)) V 22 (by decide) (hts _ (List.mem_of_getElem? (i := 26) rfl)) (v := .ref (ad 19)) rfl dX6_become_255 ?_
  refine lv_aload_n hx hb dX6_become_258 rfl (lv_at hl 0 rfl) ?_
  refine gO_Tp hx hb hts hown (fun _ h => List.mem_cons_of_mem _ (List.mem_append_right _ h)) V 22 (by decide) (hts _ (List.mem_of_getElem? (i := 26) rfl)) (v := .ref (ad (21 + 19))) rfl dX6_become_259 ?_
  obtain ⟨q39, hq39, h⟩ := bd_s h
  refine kMMs (As := [.ref (ad 19), .ref (ad (21 + 19))]) (rest := []) ⟨hx, hb, hml, hown, hts⟩ Z V (c_X6_copy (l := l) (D := D) (y := y) (ad := ad) hq39) (va_cwS 2 hts gX6_become_X6_copy rfl rfl rfl (by decide +kernel) ⟨Nat.le_of_ble_eq_true rfl, Nat.le_of_ble_eq_true rfl⟩) rfl hl.1 rfl (Nat.le_of_ble_eq_true rfl) ⟨Nat.zero_le _, Nat.zero_le _⟩ rfl dX6_become_262 (fun H locs V => ?_)
  refine lv_aload_n hx hb dX6_become_265 rfl (lv_at hl 1 rfl) ?_
  refine gM_Tp hx hb hts hown (fun _ h => List.mem_cons_of_mem _ (List.mem_append_right _ h)) V 23 (by decide) (hts _ (List.mem_of_getElem? (i := 27) rfl)) (v := .ref (ad 20)) rfl dX6_become_266 ?_
  refine lv_aload_n hx hb dX6_become_269 rfl (lv_at hl 0 rfl) ?_
  refine gO_Tp hx hb hts hown (fun _ h => List.mem_cons_of_mem _ (List.mem_append_right _ h)) V 23 (by decide) (hts _ (List.mem_of_getElem? (i := 27) rfl)) (v := .ref (ad (21 + 20))) rfl dX6_become_270 ?_
  obtain ⟨q40, hq40, h⟩ := bd_s h
  refine kMMs (As := [.ref (ad 20), .ref (ad (21 + 20))]) (rest := []) ⟨hx, hb, hml, hown, hts⟩ Z V (c_X6_copy (l := l) (D := D) (y := y) (ad := ad) hq40) (va_cwS 2 hts gX6_become_X6_copy rfl rfl rfl (by decide +kernel) ⟨Nat.le_of_ble_eq_true rfl, Nat.le_of_ble_eq_true rfl⟩) rfl hl.1 rfl (Nat.le_of_ble_eq_true rfl) ⟨Nat.zero_le _, Nat.zero_le _⟩ rfl dX6_become_273 (fun H locs V => ?_)
  obtain rfl := Option.some.inj h
  exact m_vret hx hb hr hlk V (Nat.zero_le _) (Nat.zero_le _) dX6_become_276
-- X6_runs
def f_X6_runs (N : Nat) (ρ : mSt) (a1 : Int32) : Option (Int32 × mSt) := if mIn a1 16 then if (ρ 14 a1.toNatClampNeg) = 0 then some (1, ρ) else some (0, ρ) else none
set_option maxHeartbeats 4000000 in
set_option maxRecDepth 100000 in
theorem c_X6_runs {l : Launch} {D : va_G} {y : Nat → ClassId} {ad : Nat → Nat} {N : Nat} {ρ : mSt} {a1 : Int32} {q : Int32 × mSt} (h : f_X6_runs N ρ a1 = some q) : mC l yX6_runs wsX6_runs { frames := 0, cells := 0, slots := 0, locals := 0 } D y 21 ad mX0 (mR y ad ρ) [.ref (ad 0), .int a1] (some (.int q.1)) (mR y ad q.2) 0 0 := by
  refine m_start (cc := cX6_runs) (maxL := 2) (ret := (some .boolean)) (by decide) rfl (Nat.le_of_ble_eq_true rfl) (fun p e s m args below meth c ls hB _ V _ hl => ?_)
  obtain ⟨hx, hb, hml, hown, hts, hr, hlk⟩ := id hB
  have hl : lv_has ls 2 [(0, .ref (ad 0)), (1, .int a1)] := hl
  rw [f_X6_runs] at h
  refine lv_aload_n hx hb dX6_runs_0 rfl (lv_at hl 0 rfl) ?_
  refine gR_T hx hb hts hown (fun _ h => List.mem_cons_of_mem _ (List.mem_append_right _ h)) V 17 (by decide) (hts _ (List.mem_of_getElem? (i := 1) rfl)) (v := .ref (ad 15)) rfl dX6_runs_1 ?_
  refine lv_iload_n hx hb dX6_runs_4 rfl (lv_at hl 1 rfl) ?_
  obtain ⟨hi3, h⟩ := gd_s h
  refine aR_I hx hb V 14 15 16 (by decide) rfl rfl hi3 dX6_runs_5 ?_
  refine lv_if_ne (tgt := 13) hx hb dX6_runs_6 (by decide) (fun hc4 => ?_) (fun hc4 => ?_)
  · replace h := ite_f hc4 h
    refine lv_iconst (v := 0) hx hb dX6_runs_13 (by decide) ?_
    obtain rfl := Option.some.inj h
    exact m_zret hx hb hr hlk V (Or.inl rfl) (Nat.zero_le _) (Nat.zero_le _) dX6_runs_14
  · replace h := ite_t hc4 h
    refine lv_iconst (v := 1) hx hb dX6_runs_9 (by decide) ?_
    refine lv_goto (tgt := 14) hx hb dX6_runs_10 (by decide) ?_
    obtain rfl := Option.some.inj h
    exact m_zret hx hb hr hlk V (Or.inr rfl) (Nat.zero_le _) (Nat.zero_le _) dX6_runs_14
-- X6_win
def f_X6_win (N : Nat) (ρ : mSt) (a1 : Int32) (a2 : Int32) : Option (Int32 × mSt) := if mIn a1 16 then if mIn ((2 * a1) + a2) 32 then if mIn ((mUp (mUp ρ 14 a1.toNatClampNeg (1 + a2)) 25 0 (((mUp ρ 14 a1.toNatClampNeg (1 + a2)) 25 0) + ((2 * ((mUp ρ 14 a1.toNatClampNeg (1 + a2)) 10 a1.toNatClampNeg)) / 10))) 5 ((2 * a1) + a2).toNatClampNeg) 8 then if mIn ((mUp (mUp (mUp ρ 14 a1.toNatClampNeg (1 + a2)) 25 0 (((mUp ρ 14 a1.toNatClampNeg (1 + a2)) 25 0) + ((2 * ((mUp ρ 14 a1.toNatClampNeg (1 + a2)) 10 a1.toNatClampNeg)) / 10))) 0 ((mUp (mUp ρ 14 a1.toNatClampNeg (1 + a2)) 25 0 (((mUp ρ 14 a1.toNatClampNeg (1 + a2)) 25 0) + ((2 * ((mUp ρ 14 a1.toNatClampNeg (1 + a2)) 10 a1.toNatClampNeg)) / 10))) 5 ((2 * a1) + a2).toNatClampNeg).toNatClampNeg (((mUp (mUp ρ 14 a1.toNatClampNeg (1 + a2)) 25 0 (((mUp ρ 14 a1.toNatClampNeg (1 + a2)) 25 0) + ((2 * ((mUp ρ 14 a1.toNatClampNeg (1 + a2)) 10 a1.toNatClampNeg)) / 10))) 0 ((mUp (mUp ρ 14 a1.toNatClampNeg (1 + a2)) 25 0 (((mUp ρ 14 a1.toNatClampNeg (1 + a2)) 25 0) + ((2 * ((mUp ρ 14 a1.toNatClampNeg (1 + a2)) 10 a1.toNatClampNeg)) / 10))) 5 ((2 * a1) + a2).toNatClampNeg).toNatClampNeg) + ((2 * ((mUp ρ 14 a1.toNatClampNeg (1 + a2)) 10 a1.toNatClampNeg)) - ((2 * ((mUp ρ 14 a1.toNatClampNeg (1 + a2)) 10 a1.toNatClampNeg)) / 10)))) 5 ((2 * a1) + a2).toNatClampNeg) 8 then if mIn (((2 * a1) + 1) - a2) 32 then if mIn ((mUp (mUp (mUp (mUp ρ 14 a1.toNatClampNeg (1 + a2)) 25 0 (((mUp ρ 14 a1.toNatClampNeg (1 + a2)) 25 0) + ((2 * ((mUp ρ 14 a1.toNatClampNeg (1 + a2)) 10 a1.toNatClampNeg)) / 10))) 0 ((mUp (mUp ρ 14 a1.toNatClampNeg (1 + a2)) 25 0 (((mUp ρ 14 a1.toNatClampNeg (1 + a2)) 25 0) + ((2 * ((mUp ρ 14 a1.toNatClampNeg (1 + a2)) 10 a1.toNatClampNeg)) / 10))) 5 ((2 * a1) + a2).toNatClampNeg).toNatClampNeg (((mUp (mUp ρ 14 a1.toNatClampNeg (1 + a2)) 25 0 (((mUp ρ 14 a1.toNatClampNeg (1 + a2)) 25 0) + ((2 * ((mUp ρ 14 a1.toNatClampNeg (1 + a2)) 10 a1.toNatClampNeg)) / 10))) 0 ((mUp (mUp ρ 14 a1.toNatClampNeg (1 + a2)) 25 0 (((mUp ρ 14 a1.toNatClampNeg (1 + a2)) 25 0) + ((2 * ((mUp ρ 14 a1.toNatClampNeg (1 + a2)) 10 a1.toNatClampNeg)) / 10))) 5 ((2 * a1) + a2).toNatClampNeg).toNatClampNeg) + ((2 * ((mUp ρ 14 a1.toNatClampNeg (1 + a2)) 10 a1.toNatClampNeg)) - ((2 * ((mUp ρ 14 a1.toNatClampNeg (1 + a2)) 10 a1.toNatClampNeg)) / 10)))) 2 ((mUp (mUp (mUp ρ 14 a1.toNatClampNeg (1 + a2)) 25 0 (((mUp ρ 14 a1.toNatClampNeg (1 + a2)) 25 0) + ((2 * ((mUp ρ 14 a1.toNatClampNeg (1 + a2)) 10 a1.toNatClampNeg)) / 10))) 0 ((mUp (mUp ρ 14 a1.toNatClampNeg (1 + a2)) 25 0 (((mUp ρ 14 a1.toNatClampNeg (1 + a2)) 25 0) + ((2 * ((mUp ρ 14 a1.toNatClampNeg (1 + a2)) 10 a1.toNatClampNeg)) / 10))) 5 ((2 * a1) + a2).toNatClampNeg).toNatClampNeg (((mUp (mUp ρ 14 a1.toNatClampNeg (1 + a2)) 25 0 (((mUp ρ 14 a1.toNatClampNeg (1 + a2)) 25 0) + ((2 * ((mUp ρ 14 a1.toNatClampNeg (1 + a2)) 10 a1.toNatClampNeg)) / 10))) 0 ((mUp (mUp ρ 14 a1.toNatClampNeg (1 + a2)) 25 0 (((mUp ρ 14 a1.toNatClampNeg (1 + a2)) 25 0) + ((2 * ((mUp ρ 14 a1.toNatClampNeg (1 + a2)) 10 a1.toNatClampNeg)) / 10))) 5 ((2 * a1) + a2).toNatClampNeg).toNatClampNeg) + ((2 * ((mUp ρ 14 a1.toNatClampNeg (1 + a2)) 10 a1.toNatClampNeg)) - ((2 * ((mUp ρ 14 a1.toNatClampNeg (1 + a2)) 10 a1.toNatClampNeg)) / 10)))) 5 ((2 * a1) + a2).toNatClampNeg).toNatClampNeg (((mUp (mUp (mUp ρ 14 a1.toNatClampNeg (1 + a2)) 25 0 (((mUp ρ 14 a1.toNatClampNeg (1 + a2)) 25 0) + ((2 * ((mUp ρ 14 a1.toNatClampNeg (1 + a2)) 10 a1.toNatClampNeg)) / 10))) 0 ((mUp (mUp ρ 14 a1.toNatClampNeg (1 + a2)) 25 0 (((mUp ρ 14 a1.toNatClampNeg (1 + a2)) 25 0) + ((2 * ((mUp ρ 14 a1.toNatClampNeg (1 + a2)) 10 a1.toNatClampNeg)) / 10))) 5 ((2 * a1) + a2).toNatClampNeg).toNatClampNeg (((mUp (mUp ρ 14 a1.toNatClampNeg (1 + a2)) 25 0 (((mUp ρ 14 a1.toNatClampNeg (1 + a2)) 25 0) + ((2 * ((mUp ρ 14 a1.toNatClampNeg (1 + a2)) 10 a1.toNatClampNeg)) / 10))) 0 ((mUp (mUp ρ 14 a1.toNatClampNeg (1 + a2)) 25 0 (((mUp ρ 14 a1.toNatClampNeg (1 + a2)) 25 0) + ((2 * ((mUp ρ 14 a1.toNatClampNeg (1 + a2)) 10 a1.toNatClampNeg)) / 10))) 5 ((2 * a1) + a2).toNatClampNeg).toNatClampNeg) + ((2 * ((mUp ρ 14 a1.toNatClampNeg (1 + a2)) 10 a1.toNatClampNeg)) - ((2 * ((mUp ρ 14 a1.toNatClampNeg (1 + a2)) 10 a1.toNatClampNeg)) / 10)))) 2 ((mUp (mUp (mUp ρ 14 a1.toNatClampNeg (1 + a2)) 25 0 (((mUp ρ 14 a1.toNatClampNeg (1 + a2)) 25 0) + ((2 * ((mUp ρ 14 a1.toNatClampNeg (1 + a2)) 10 a1.toNatClampNeg)) / 10))) 0 ((mUp (mUp ρ 14 a1.toNatClampNeg (1 + a2)) 25 0 (((mUp ρ 14 a1.toNatClampNeg (1 + a2)) 25 0) + ((2 * ((mUp ρ 14 a1.toNatClampNeg (1 + a2)) 10 a1.toNatClampNeg)) / 10))) 5 ((2 * a1) + a2).toNatClampNeg).toNatClampNeg (((mUp (mUp ρ 14 a1.toNatClampNeg (1 + a2)) 25 0 (((mUp ρ 14 a1.toNatClampNeg (1 + a2)) 25 0) + ((2 * ((mUp ρ 14 a1.toNatClampNeg (1 + a2)) 10 a1.toNatClampNeg)) / 10))) 0 ((mUp (mUp ρ 14 a1.toNatClampNeg (1 + a2)) 25 0 (((mUp ρ 14 a1.toNatClampNeg (1 + a2)) 25 0) + ((2 * ((mUp ρ 14 a1.toNatClampNeg (1 + a2)) 10 a1.toNatClampNeg)) / 10))) 5 ((2 * a1) + a2).toNatClampNeg).toNatClampNeg) + ((2 * ((mUp ρ 14 a1.toNatClampNeg (1 + a2)) 10 a1.toNatClampNeg)) - ((2 * ((mUp ρ 14 a1.toNatClampNeg (1 + a2)) 10 a1.toNatClampNeg)) / 10)))) 5 ((2 * a1) + a2).toNatClampNeg).toNatClampNeg) + 1)) 5 (((2 * a1) + 1) - a2).toNatClampNeg) 8 then some ((2 * ((mUp ρ 14 a1.toNatClampNeg (1 + a2)) 10 a1.toNatClampNeg)) - ((2 * ((mUp ρ 14 a1.toNatClampNeg (1 + a2)) 10 a1.toNatClampNeg)) / 10), (mUp (mUp (mUp (mUp (mUp ρ 14 a1.toNatClampNeg (1 + a2)) 25 0 (((mUp ρ 14 a1.toNatClampNeg (1 + a2)) 25 0) + ((2 * ((mUp ρ 14 a1.toNatClampNeg (1 + a2)) 10 a1.toNatClampNeg)) / 10))) 0 ((mUp (mUp ρ 14 a1.toNatClampNeg (1 + a2)) 25 0 (((mUp ρ 14 a1.toNatClampNeg (1 + a2)) 25 0) + ((2 * ((mUp ρ 14 a1.toNatClampNeg (1 + a2)) 10 a1.toNatClampNeg)) / 10))) 5 ((2 * a1) + a2).toNatClampNeg).toNatClampNeg (((mUp (mUp ρ 14 a1.toNatClampNeg (1 + a2)) 25 0 (((mUp ρ 14 a1.toNatClampNeg (1 + a2)) 25 0) + ((2 * ((mUp ρ 14 a1.toNatClampNeg (1 + a2)) 10 a1.toNatClampNeg)) / 10))) 0 ((mUp (mUp ρ 14 a1.toNatClampNeg (1 + a2)) 25 0 (((mUp ρ 14 a1.toNatClampNeg (1 + a2)) 25 0) + ((2 * ((mUp ρ 14 a1.toNatClampNeg (1 + a2)) 10 a1.toNatClampNeg)) / 10))) 5 ((2 * a1) + a2).toNatClampNeg).toNatClampNeg) + ((2 * ((mUp ρ 14 a1.toNatClampNeg (1 + a2)) 10 a1.toNatClampNeg)) - ((2 * ((mUp ρ 14 a1.toNatClampNeg (1 + a2)) 10 a1.toNatClampNeg)) / 10)))) 2 ((mUp (mUp (mUp ρ 14 a1.toNatClampNeg (1 + a2)) 25 0 (((mUp ρ 14 a1.toNatClampNeg (1 + a2)) 25 0) + ((2 * ((mUp ρ 14 a1.toNatClampNeg (1 + a2)) 10 a1.toNatClampNeg)) / 10))) 0 ((mUp (mUp ρ 14 a1.toNatClampNeg (1 + a2)) 25 0 (((mUp ρ 14 a1.toNatClampNeg (1 + a2)) 25 0) + ((2 * ((mUp ρ 14 a1.toNatClampNeg (1 + a2)) 10 a1.toNatClampNeg)) / 10))) 5 ((2 * a1) + a2).toNatClampNeg).toNatClampNeg (((mUp (mUp ρ 14 a1.toNatClampNeg (1 + a2)) 25 0 (((mUp ρ 14 a1.toNatClampNeg (1 + a2)) 25 0) + ((2 * ((mUp ρ 14 a1.toNatClampNeg (1 + a2)) 10 a1.toNatClampNeg)) / 10))) 0 ((mUp (mUp ρ 14 a1.toNatClampNeg (1 + a2)) 25 0 (((mUp ρ 14 a1.toNatClampNeg (1 + a2)) 25 0) + ((2 * ((mUp ρ 14 a1.toNatClampNeg (1 + a2)) 10 a1.toNatClampNeg)) / 10))) 5 ((2 * a1) + a2).toNatClampNeg).toNatClampNeg) + ((2 * ((mUp ρ 14 a1.toNatClampNeg (1 + a2)) 10 a1.toNatClampNeg)) - ((2 * ((mUp ρ 14 a1.toNatClampNeg (1 + a2)) 10 a1.toNatClampNeg)) / 10)))) 5 ((2 * a1) + a2).toNatClampNeg).toNatClampNeg (((mUp (mUp (mUp ρ 14 a1.toNatClampNeg (1 + a2)) 25 0 (((mUp ρ 14 a1.toNatClampNeg (1 + a2)) 25 0) + ((2 * ((mUp ρ 14 a1.toNatClampNeg (1 + a2)) 10 a1.toNatClampNeg)) / 10))) 0 ((mUp (mUp ρ 14 a1.toNatClampNeg (1 + a2)) 25 0 (((mUp ρ 14 a1.toNatClampNeg (1 + a2)) 25 0) + ((2 * ((mUp ρ 14 a1.toNatClampNeg (1 + a2)) 10 a1.toNatClampNeg)) / 10))) 5 ((2 * a1) + a2).toNatClampNeg).toNatClampNeg (((mUp (mUp ρ 14 a1.toNatClampNeg (1 + a2)) 25 0 (((mUp ρ 14 a1.toNatClampNeg (1 + a2)) 25 0) + ((2 * ((mUp ρ 14 a1.toNatClampNeg (1 + a2)) 10 a1.toNatClampNeg)) / 10))) 0 ((mUp (mUp ρ 14 a1.toNatClampNeg (1 + a2)) 25 0 (((mUp ρ 14 a1.toNatClampNeg (1 + a2)) 25 0) + ((2 * ((mUp ρ 14 a1.toNatClampNeg (1 + a2)) 10 a1.toNatClampNeg)) / 10))) 5 ((2 * a1) + a2).toNatClampNeg).toNatClampNeg) + ((2 * ((mUp ρ 14 a1.toNatClampNeg (1 + a2)) 10 a1.toNatClampNeg)) - ((2 * ((mUp ρ 14 a1.toNatClampNeg (1 + a2)) 10 a1.toNatClampNeg)) / 10)))) 2 ((mUp (mUp (mUp ρ 14 a1.toNatClampNeg (1 + a2)) 25 0 (((mUp ρ 14 a1.toNatClampNeg (1 + a2)) 25 0) + ((2 * ((mUp ρ 14 a1.toNatClampNeg (1 + a2)) 10 a1.toNatClampNeg)) / 10))) 0 ((mUp (mUp ρ 14 a1.toNatClampNeg (1 + a2)) 25 0 (((mUp ρ 14 a1.toNatClampNeg (1 + a2)) 25 0) + ((2 * ((mUp ρ 14 a1.toNatClampNeg (1 + a2)) 10 a1.toNatClampNeg)) / 10))) 5 ((2 * a1) + a2).toNatClampNeg).toNatClampNeg (((mUp (mUp ρ 14 a1.toNatClampNeg (1 + a2)) 25 0 (((mUp ρ 14 a1.toNatClampNeg (1 + a2)) 25 0) + ((2 * ((mUp ρ 14 a1.toNatClampNeg (1 + a2)) 10 a1.toNatClampNeg)) / 10))) 0 ((mUp (mUp ρ 14 a1.toNatClampNeg (1 + a2)) 25 0 (((mUp ρ 14 a1.toNatClampNeg (1 + a2)) 25 0) + ((2 * ((mUp ρ 14 a1.toNatClampNeg (1 + a2)) 10 a1.toNatClampNeg)) / 10))) 5 ((2 * a1) + a2).toNatClampNeg).toNatClampNeg) + ((2 * ((mUp ρ 14 a1.toNatClampNeg (1 + a2)) 10 a1.toNatClampNeg)) - ((2 * ((mUp ρ 14 a1.toNatClampNeg (1 + a2)) 10 a1.toNatClampNeg)) / 10)))) 5 ((2 * a1) + a2).toNatClampNeg).toNatClampNeg) + 1)) 3 ((mUp (mUp (mUp (mUp ρ 14 a1.toNatClampNeg (1 + a2)) 25 0 (((mUp ρ 14 a1.toNatClampNeg (1 + a2)) 25 0) + ((2 * ((mUp ρ 14 a1.toNatClampNeg (1 + a2)) 10 a1.toNatClampNeg)) / 10))) 0 ((mUp (mUp ρ 14 a1.toNatClampNeg (1 + a2)) 25 0 (((mUp ρ 14 a1.toNatClampNeg (1 + a2)) 25 0) + ((2 * ((mUp ρ 14 a1.toNatClampNeg (1 + a2)) 10 a1.toNatClampNeg)) / 10))) 5 ((2 * a1) + a2).toNatClampNeg).toNatClampNeg (((mUp (mUp ρ 14 a1.toNatClampNeg (1 + a2)) 25 0 (((mUp ρ 14 a1.toNatClampNeg (1 + a2)) 25 0) + ((2 * ((mUp ρ 14 a1.toNatClampNeg (1 + a2)) 10 a1.toNatClampNeg)) / 10))) 0 ((mUp (mUp ρ 14 a1.toNatClampNeg (1 + a2)) 25 0 (((mUp ρ 14 a1.toNatClampNeg (1 + a2)) 25 0) + ((2 * ((mUp ρ 14 a1.toNatClampNeg (1 + a2)) 10 a1.toNatClampNeg)) / 10))) 5 ((2 * a1) + a2).toNatClampNeg).toNatClampNeg) + ((2 * ((mUp ρ 14 a1.toNatClampNeg (1 + a2)) 10 a1.toNatClampNeg)) - ((2 * ((mUp ρ 14 a1.toNatClampNeg (1 + a2)) 10 a1.toNatClampNeg)) / 10)))) 2 ((mUp (mUp (mUp ρ 14 a1.toNatClampNeg (1 + a2)) 25 0 (((mUp ρ 14 a1.toNatClampNeg (1 + a2)) 25 0) + ((2 * ((mUp ρ 14 a1.toNatClampNeg (1 + a2)) 10 a1.toNatClampNeg)) / 10))) 0 ((mUp (mUp ρ 14 a1.toNatClampNeg (1 + a2)) 25 0 (((mUp ρ 14 a1.toNatClampNeg (1 + a2)) 25 0) + ((2 * ((mUp ρ 14 a1.toNatClampNeg (1 + a2)) 10 a1.toNatClampNeg)) / 10))) 5 ((2 * a1) + a2).toNatClampNeg).toNatClampNeg (((mUp (mUp ρ 14 a1.toNatClampNeg (1 + a2)) 25 0 (((mUp ρ 14 a1.toNatClampNeg (1 + a2)) 25 0) + ((2 * ((mUp ρ 14 a1.toNatClampNeg (1 + a2)) 10 a1.toNatClampNeg)) / 10))) 0 ((mUp (mUp ρ 14 a1.toNatClampNeg (1 + a2)) 25 0 (((mUp ρ 14 a1.toNatClampNeg (1 + a2)) 25 0) + ((2 * ((mUp ρ 14 a1.toNatClampNeg (1 + a2)) 10 a1.toNatClampNeg)) / 10))) 5 ((2 * a1) + a2).toNatClampNeg).toNatClampNeg) + ((2 * ((mUp ρ 14 a1.toNatClampNeg (1 + a2)) 10 a1.toNatClampNeg)) - ((2 * ((mUp ρ 14 a1.toNatClampNeg (1 + a2)) 10 a1.toNatClampNeg)) / 10)))) 5 ((2 * a1) + a2).toNatClampNeg).toNatClampNeg (((mUp (mUp (mUp ρ 14 a1.toNatClampNeg (1 + a2)) 25 0 (((mUp ρ 14 a1.toNatClampNeg (1 + a2)) 25 0) + ((2 * ((mUp ρ 14 a1.toNatClampNeg (1 + a2)) 10 a1.toNatClampNeg)) / 10))) 0 ((mUp (mUp ρ 14 a1.toNatClampNeg (1 + a2)) 25 0 (((mUp ρ 14 a1.toNatClampNeg (1 + a2)) 25 0) + ((2 * ((mUp ρ 14 a1.toNatClampNeg (1 + a2)) 10 a1.toNatClampNeg)) / 10))) 5 ((2 * a1) + a2).toNatClampNeg).toNatClampNeg (((mUp (mUp ρ 14 a1.toNatClampNeg (1 + a2)) 25 0 (((mUp ρ 14 a1.toNatClampNeg (1 + a2)) 25 0) + ((2 * ((mUp ρ 14 a1.toNatClampNeg (1 + a2)) 10 a1.toNatClampNeg)) / 10))) 0 ((mUp (mUp ρ 14 a1.toNatClampNeg (1 + a2)) 25 0 (((mUp ρ 14 a1.toNatClampNeg (1 + a2)) 25 0) + ((2 * ((mUp ρ 14 a1.toNatClampNeg (1 + a2)) 10 a1.toNatClampNeg)) / 10))) 5 ((2 * a1) + a2).toNatClampNeg).toNatClampNeg) + ((2 * ((mUp ρ 14 a1.toNatClampNeg (1 + a2)) 10 a1.toNatClampNeg)) - ((2 * ((mUp ρ 14 a1.toNatClampNeg (1 + a2)) 10 a1.toNatClampNeg)) / 10)))) 2 ((mUp (mUp (mUp ρ 14 a1.toNatClampNeg (1 + a2)) 25 0 (((mUp ρ 14 a1.toNatClampNeg (1 + a2)) 25 0) + ((2 * ((mUp ρ 14 a1.toNatClampNeg (1 + a2)) 10 a1.toNatClampNeg)) / 10))) 0 ((mUp (mUp ρ 14 a1.toNatClampNeg (1 + a2)) 25 0 (((mUp ρ 14 a1.toNatClampNeg (1 + a2)) 25 0) + ((2 * ((mUp ρ 14 a1.toNatClampNeg (1 + a2)) 10 a1.toNatClampNeg)) / 10))) 5 ((2 * a1) + a2).toNatClampNeg).toNatClampNeg (((mUp (mUp ρ 14 a1.toNatClampNeg (1 + a2)) 25 0 (((mUp ρ 14 a1.toNatClampNeg (1 + a2)) 25 0) + ((2 * ((mUp ρ 14 a1.toNatClampNeg (1 + a2)) 10 a1.toNatClampNeg)) / 10))) 0 ((mUp (mUp ρ 14 a1.toNatClampNeg (1 + a2)) 25 0 (((mUp ρ 14 a1.toNatClampNeg (1 + a2)) 25 0) + ((2 * ((mUp ρ 14 a1.toNatClampNeg (1 + a2)) 10 a1.toNatClampNeg)) / 10))) 5 ((2 * a1) + a2).toNatClampNeg).toNatClampNeg) + ((2 * ((mUp ρ 14 a1.toNatClampNeg (1 + a2)) 10 a1.toNatClampNeg)) - ((2 * ((mUp ρ 14 a1.toNatClampNeg (1 + a2)) 10 a1.toNatClampNeg)) / 10)))) 5 ((2 * a1) + a2).toNatClampNeg).toNatClampNeg) + 1)) 5 (((2 * a1) + 1) - a2).toNatClampNeg).toNatClampNeg (((mUp (mUp (mUp (mUp ρ 14 a1.toNatClampNeg (1 + a2)) 25 0 (((mUp ρ 14 a1.toNatClampNeg (1 + a2)) 25 0) + ((2 * ((mUp ρ 14 a1.toNatClampNeg (1 + a2)) 10 a1.toNatClampNeg)) / 10))) 0 ((mUp (mUp ρ 14 a1.toNatClampNeg (1 + a2)) 25 0 (((mUp ρ 14 a1.toNatClampNeg (1 + a2)) 25 0) + ((2 * ((mUp ρ 14 a1.toNatClampNeg (1 + a2)) 10 a1.toNatClampNeg)) / 10))) 5 ((2 * a1) + a2).toNatClampNeg).toNatClampNeg (((mUp (mUp ρ 14 a1.toNatClampNeg (1 + a2)) 25 0 (((mUp ρ 14 a1.toNatClampNeg (1 + a2)) 25 0) + ((2 * ((mUp ρ 14 a1.toNatClampNeg (1 + a2)) 10 a1.toNatClampNeg)) / 10))) 0 ((mUp (mUp ρ 14 a1.toNatClampNeg (1 + a2)) 25 0 (((mUp ρ 14 a1.toNatClampNeg (1 + a2)) 25 0) + ((2 * ((mUp ρ 14 a1.toNatClampNeg (1 + a2)) 10 a1.toNatClampNeg)) / 10))) 5 ((2 * a1) + a2).toNatClampNeg).toNatClampNeg) + ((2 * ((mUp ρ 14 a1.toNatClampNeg (1 + a2)) 10 a1.toNatClampNeg)) - ((2 * ((mUp ρ 14 a1.toNatClampNeg (1 + a2)) 10 a1.toNatClampNeg)) / 10)))) 2 ((mUp (mUp (mUp ρ 14 a1.toNatClampNeg (1 + a2)) 25 0 (((mUp ρ 14 a1.toNatClampNeg (1 + a2)) 25 0) + ((2 * ((mUp ρ 14 a1.toNatClampNeg (1 + a2)) 10 a1.toNatClampNeg)) / 10))) 0 ((mUp (mUp ρ 14 a1.toNatClampNeg (1 + a2)) 25 0 (((mUp ρ 14 a1.toNatClampNeg (1 + a2)) 25 0) + ((2 * ((mUp ρ 14 a1.toNatClampNeg (1 + a2)) 10 a1.toNatClampNeg)) / 10))) 5 ((2 * a1) + a2).toNatClampNeg).toNatClampNeg (((mUp (mUp ρ 14 a1.toNatClampNeg (1 + a2)) 25 0 (((mUp ρ 14 a1.toNatClampNeg (1 + a2)) 25 0) + ((2 * ((mUp ρ 14 a1.toNatClampNeg (1 + a2)) 10 a1.toNatClampNeg)) / 10))) 0 ((mUp (mUp ρ 14 a1.toNatClampNeg (1 + a2)) 25 0 (((mUp ρ 14 a1.toNatClampNeg (1 + a2)) 25 0) + ((2 * ((mUp ρ 14 a1.toNatClampNeg (1 + a2)) 10 a1.toNatClampNeg)) / 10))) 5 ((2 * a1) + a2).toNatClampNeg).toNatClampNeg) + ((2 * ((mUp ρ 14 a1.toNatClampNeg (1 + a2)) 10 a1.toNatClampNeg)) - ((2 * ((mUp ρ 14 a1.toNatClampNeg (1 + a2)) 10 a1.toNatClampNeg)) / 10)))) 5 ((2 * a1) + a2).toNatClampNeg).toNatClampNeg (((mUp (mUp (mUp ρ 14 a1.toNatClampNeg (1 + a2)) 25 0 (((mUp ρ 14 a1.toNatClampNeg (1 + a2)) 25 0) + ((2 * ((mUp ρ 14 a1.toNatClampNeg (1 + a2)) 10 a1.toNatClampNeg)) / 10))) 0 ((mUp (mUp ρ 14 a1.toNatClampNeg (1 + a2)) 25 0 (((mUp ρ 14 a1.toNatClampNeg (1 + a2)) 25 0) + ((2 * ((mUp ρ 14 a1.toNatClampNeg (1 + a2)) 10 a1.toNatClampNeg)) / 10))) 5 ((2 * a1) + a2).toNatClampNeg).toNatClampNeg (((mUp (mUp ρ 14 a1.toNatClampNeg (1 + a2)) 25 0 (((mUp ρ 14 a1.toNatClampNeg (1 + a2)) 25 0) + ((2 * ((mUp ρ 14 a1.toNatClampNeg (1 + a2)) 10 a1.toNatClampNeg)) / 10))) 0 ((mUp (mUp ρ 14 a1.toNatClampNeg (1 + a2)) 25 0 (((mUp ρ 14 a1.toNatClampNeg (1 + a2)) 25 0) + ((2 * ((mUp ρ 14 a1.toNatClampNeg (1 + a2)) 10 a1.toNatClampNeg)) / 10))) 5 ((2 * a1) + a2).toNatClampNeg).toNatClampNeg) + ((2 * ((mUp ρ 14 a1.toNatClampNeg (1 + a2)) 10 a1.toNatClampNeg)) - ((2 * ((mUp ρ 14 a1.toNatClampNeg (1 + a2)) 10 a1.toNatClampNeg)) / 10)))) 2 ((mUp (mUp (mUp ρ 14 a1.toNatClampNeg (1 + a2)) 25 0 (((mUp ρ 14 a1.toNatClampNeg (1 + a2)) 25 0) + ((2 * ((mUp ρ 14 a1.toNatClampNeg (1 + a2)) 10 a1.toNatClampNeg)) / 10))) 0 ((mUp (mUp ρ 14 a1.toNatClampNeg (1 + a2)) 25 0 (((mUp ρ 14 a1.toNatClampNeg (1 + a2)) 25 0) + ((2 * ((mUp ρ 14 a1.toNatClampNeg (1 + a2)) 10 a1.toNatClampNeg)) / 10))) 5 ((2 * a1) + a2).toNatClampNeg).toNatClampNeg (((mUp (mUp ρ 14 a1.toNatClampNeg (1 + a2)) 25 0 (((mUp ρ 14 a1.toNatClampNeg (1 + a2)) 25 0) + ((2 * ((mUp ρ 14 a1.toNatClampNeg (1 + a2)) 10 a1.toNatClampNeg)) / 10))) 0 ((mUp (mUp ρ 14 a1.toNatClampNeg (1 + a2)) 25 0 (((mUp ρ 14 a1.toNatClampNeg (1 + a2)) 25 0) + ((2 * ((mUp ρ 14 a1.toNatClampNeg (1 + a2)) 10 a1.toNatClampNeg)) / 10))) 5 ((2 * a1) + a2).toNatClampNeg).toNatClampNeg) + ((2 * ((mUp ρ 14 a1.toNatClampNeg (1 + a2)) 10 a1.toNatClampNeg)) - ((2 * ((mUp ρ 14 a1.toNatClampNeg (1 + a2)) 10 a1.toNatClampNeg)) / 10)))) 5 ((2 * a1) + a2).toNatClampNeg).toNatClampNeg) + 1)) 3 ((mUp (mUp (mUp (mUp ρ 14 a1.toNatClampNeg (1 + a2)) 25 0 (((mUp ρ 14 a1.toNatClampNeg (1 + a2)) 25 0) + ((2 * ((mUp ρ 14 a1.toNatClampNeg (1 + a2)) 10 a1.toNatClampNeg)) / 10))) 0 ((mUp (mUp ρ 14 a1.toNatClampNeg (1 + a2)) 25 0 (((mUp ρ 14 a1.toNatClampNeg (1 + a2)) 25 0) + ((2 * ((mUp ρ 14 a1.toNatClampNeg (1 + a2)) 10 a1.toNatClampNeg)) / 10))) 5 ((2 * a1) + a2).toNatClampNeg).toNatClampNeg (((mUp (mUp ρ 14 a1.toNatClampNeg (1 + a2)) 25 0 (((mUp ρ 14 a1.toNatClampNeg (1 + a2)) 25 0) + ((2 * ((mUp ρ 14 a1.toNatClampNeg (1 + a2)) 10 a1.toNatClampNeg)) / 10))) 0 ((mUp (mUp ρ 14 a1.toNatClampNeg (1 + a2)) 25 0 (((mUp ρ 14 a1.toNatClampNeg (1 + a2)) 25 0) + ((2 * ((mUp ρ 14 a1.toNatClampNeg (1 + a2)) 10 a1.toNatClampNeg)) / 10))) 5 ((2 * a1) + a2).toNatClampNeg).toNatClampNeg) + ((2 * ((mUp ρ 14 a1.toNatClampNeg (1 + a2)) 10 a1.toNatClampNeg)) - ((2 * ((mUp ρ 14 a1.toNatClampNeg (1 + a2)) 10 a1.toNatClampNeg)) / 10)))) 2 ((mUp (mUp (mUp ρ 14 a1.toNatClampNeg (1 + a2)) 25 0 (((mUp ρ 14 a1.toNatClampNeg (1 + a2)) 25 0) + ((2 * ((mUp ρ 14 a1.toNatClampNeg (1 + a2)) 10 a1.toNatClampNeg)) / 10))) 0 ((mUp (mUp ρ 14 a1.toNatClampNeg (1 + a2)) 25 0 (((mUp ρ 14 a1.toNatClampNeg (1 + a2)) 25 0) + ((2 * ((mUp ρ 14 a1.toNatClampNeg (1 + a2)) 10 a1.toNatClampNeg)) / 10))) 5 ((2 * a1) + a2).toNatClampNeg).toNatClampNeg (((mUp (mUp ρ 14 a1.toNatClampNeg (1 + a2)) 25 0 (((mUp ρ 14 a1.toNatClampNeg (1 + a2)) 25 0) + ((2 * ((mUp ρ 14 a1.toNatClampNeg (1 + a2)) 10 a1.toNatClampNeg)) / 10))) 0 ((mUp (mUp ρ 14 a1.toNatClampNeg (1 + a2)) 25 0 (((mUp ρ 14 a1.toNatClampNeg (1 + a2)) 25 0) + ((2 * ((mUp ρ 14 a1.toNatClampNeg (1 + a2)) 10 a1.toNatClampNeg)) / 10))) 5 ((2 * a1) + a2).toNatClampNeg).toNatClampNeg) + ((2 * ((mUp ρ 14 a1.toNatClampNeg (1 + a2)) 10 a1.toNatClampNeg)) - ((2 * ((mUp ρ 14 a1.toNatClampNeg (1 + a2)) 10 a1.toNatClampNeg)) / 10)))) 5 ((2 * a1) + a2).toNatClampNeg).toNatClampNeg (((mUp (mUp (mUp ρ 14 a1.toNatClampNeg (1 + a2)) 25 0 (((mUp ρ 14 a1.toNatClampNeg (1 + a2)) 25 0) + ((2 * ((mUp ρ 14 a1.toNatClampNeg (1 + a2)) 10 a1.toNatClampNeg)) / 10))) 0 ((mUp (mUp ρ 14 a1.toNatClampNeg (1 + a2)) 25 0 (((mUp ρ 14 a1.toNatClampNeg (1 + a2)) 25 0) + ((2 * ((mUp ρ 14 a1.toNatClampNeg (1 + a2)) 10 a1.toNatClampNeg)) / 10))) 5 ((2 * a1) + a2).toNatClampNeg).toNatClampNeg (((mUp (mUp ρ 14 a1.toNatClampNeg (1 + a2)) 25 0 (((mUp ρ 14 a1.toNatClampNeg (1 + a2)) 25 0) + ((2 * ((mUp ρ 14 a1.toNatClampNeg (1 + a2)) 10 a1.toNatClampNeg)) / 10))) 0 ((mUp (mUp ρ 14 a1.toNatClampNeg (1 + a2)) 25 0 (((mUp ρ 14 a1.toNatClampNeg (1 + a2)) 25 0) + ((2 * ((mUp ρ 14 a1.toNatClampNeg (1 + a2)) 10 a1.toNatClampNeg)) / 10))) 5 ((2 * a1) + a2).toNatClampNeg).toNatClampNeg) + ((2 * ((mUp ρ 14 a1.toNatClampNeg (1 + a2)) 10 a1.toNatClampNeg)) - ((2 * ((mUp ρ 14 a1.toNatClampNeg (1 + a2)) 10 a1.toNatClampNeg)) / 10)))) 2 ((mUp (mUp (mUp ρ 14 a1.toNatClampNeg (1 + a2)) 25 0 (((mUp ρ 14 a1.toNatClampNeg (1 + a2)) 25 0) + ((2 * ((mUp ρ 14 a1.toNatClampNeg (1 + a2)) 10 a1.toNatClampNeg)) / 10))) 0 ((mUp (mUp ρ 14 a1.toNatClampNeg (1 + a2)) 25 0 (((mUp ρ 14 a1.toNatClampNeg (1 + a2)) 25 0) + ((2 * ((mUp ρ 14 a1.toNatClampNeg (1 + a2)) 10 a1.toNatClampNeg)) / 10))) 5 ((2 * a1) + a2).toNatClampNeg).toNatClampNeg (((mUp (mUp ρ 14 a1.toNatClampNeg (1 + a2)) 25 0 (((mUp ρ 14 a1.toNatClampNeg (1 + a2)) 25 0) + ((2 * ((mUp ρ 14 a1.toNatClampNeg (1 + a2)) 10 a1.toNatClampNeg)) / 10))) 0 ((mUp (mUp ρ 14 a1.toNatClampNeg (1 + a2)) 25 0 (((mUp ρ 14 a1.toNatClampNeg (1 + a2)) 25 0) + ((2 * ((mUp ρ 14 a1.toNatClampNeg (1 + a2)) 10 a1.toNatClampNeg)) / 10))) 5 ((2 * a1) + a2).toNatClampNeg).toNatClampNeg) + ((2 * ((mUp ρ 14 a1.toNatClampNeg (1 + a2)) 10 a1.toNatClampNeg)) - ((2 * ((mUp ρ 14 a1.toNatClampNeg (1 + a2)) 10 a1.toNatClampNeg)) / 10)))) 5 ((2 * a1) + a2).toNatClampNeg).toNatClampNeg) + 1)) 5 (((2 * a1) + 1) - a2).toNatClampNeg).toNatClampNeg) + 1))) else none else none else none else none else none else none
set_option maxHeartbeats 4000000 in
set_option maxRecDepth 100000 in
theorem c_X6_win {l : Launch} {D : va_G} {y : Nat → ClassId} {ad : Nat → Nat} {N : Nat} {ρ : mSt} {a1 : Int32} {a2 : Int32} {q : Int32 × mSt} (h : f_X6_win N ρ a1 a2 = some q) : mC l yX6_win wsX6_win { frames := 0, cells := 0, slots := 0, locals := 0 } D y 21 ad mX0 (mR y ad ρ) [.ref (ad 0), .int a1, .int a2] (some (.int q.1)) (mR y ad q.2) 0 0 := by
  refine m_start (cc := cX6_win) (maxL := 4) (ret := (some .int)) (by decide) rfl (Nat.le_of_ble_eq_true rfl) (fun p e s m args below meth c ls hB _ V _ hl => ?_)
  obtain ⟨hx, hb, hml, hown, hts, hr, hlk⟩ := id hB
  have hl : lv_has ls 4 [(0, .ref (ad 0)), (1, .int a1), (2, .int a2)] := hl
  rw [f_X6_win] at h
  refine lv_aload_n hx hb dX6_win_0 rfl (lv_at hl 0 rfl) ?_
  refine gR_T hx hb hts hown (fun _ h => List.mem_cons_of_mem _ (List.mem_append_right _ h)) V 17 (by decide) (hts _ (List.mem_of_getElem? (i := 1) rfl)) (v := .ref (ad 15)) rfl dX6_win_1 ?_
  refine lv_iload_n hx hb dX6_win_4 rfl (lv_at hl 1 rfl) ?_
  refine lv_iconst (v := 1) hx hb dX6_win_5 (by decide) ?_
  refine lv_iload_n hx hb dX6_win_6 rfl (lv_at hl 2 rfl) ?_
  refine lv_iadd hx hb dX6_win_7 ?_
  obtain ⟨hi9, h⟩ := gd_s h
  refine bR_I hx hb V 14 15 16 (by decide) rfl rfl hi9 dX6_win_8 (fun H locs V => ?_)
  refine lv_iconst (v := 2) hx hb dX6_win_9 (by decide) ?_
  refine lv_aload_n hx hb dX6_win_10 rfl (lv_at hl 0 rfl) ?_
  refine gR_T hx hb hts hown (fun _ h => List.mem_cons_of_mem _ (List.mem_append_right _ h)) V 13 (by decide) (hts _ (List.mem_of_getElem? (i := 2) rfl)) (v := .ref (ad 11)) rfl dX6_win_11 ?_
  refine lv_iload_n hx hb dX6_win_14 rfl (lv_at hl 1 rfl) ?_
  refine aR_I hx hb V 10 11 16 (by decide) rfl rfl hi9 dX6_win_15 ?_
  refine lv_imul hx hb dX6_win_16 ?_
  refine lv_istore_n (lv' := [(3, .int (2 * ((mUp ρ 14 a1.toNatClampNeg (1 + a2)) 10 a1.toNatClampNeg))), (0, .ref (ad 0)), (1, .int a1), (2, .int a2)]) hx hb dX6_win_17 rfl hl (by decide) rfl (fun ls hl => ?_)
  refine lv_aload_n hx hb dX6_win_18 rfl (lv_at hl 1 rfl) ?_
  refine lv_dup hx hb dX6_win_19 rfl ?_
  refine gR_T hx hb hts hown (fun _ h => List.mem_cons_of_mem _ (List.mem_append_right _ h)) V 25 (by decide) (hts _ (List.mem_of_getElem? (i := 3) rfl)) (v := .int ((mUp ρ 14 a1.toNatClampNeg (1 + a2)) 25 0)) rfl dX6_win_20 ?_
  refine lv_iload_n hx hb dX6_win_23 rfl (lv_at hl 0 rfl) ?_
  refine lv_bipush (v := 10) hx hb dX6_win_24 (by decide) ?_
  refine lv_idiv hx hb dX6_win_26 (by decide) ?_
  refine lv_iadd hx hb dX6_win_27 ?_
  refine pR_T hx hb hts hown (fun _ h => List.mem_cons_of_mem _ (List.mem_append_right _ h)) V 25 25 (by decide) (by decide) (hts _ (List.mem_of_getElem? (i := 3) rfl)) rfl (mR0_s25 _ _ _) dX6_win_28 (fun H locs V => ?_)
  refine lv_aload_n hx hb dX6_win_31 rfl (lv_at hl 1 rfl) ?_
  refine gR_T hx hb hts hown (fun _ h => List.mem_cons_of_mem _ (List.mem_append_right _ h)) V 2 (by decide) (hts _ (List.mem_of_getElem? (i := 4) rfl)) (v := .ref (ad 1)) rfl dX6_win_32 ?_
  refine lv_aload_n hx hb dX6_win_35 rfl (lv_at hl 1 rfl) ?_
  refine gR_T hx hb hts hown (fun _ h => List.mem_cons_of_mem _ (List.mem_append_right _ h)) V 8 (by decide) (hts _ (List.mem_of_getElem? (i := 5) rfl)) (v := .ref (ad 6)) rfl dX6_win_36 ?_
  refine lv_iconst (v := 2) hx hb dX6_win_39 (by decide) ?_
  refine lv_iload_n hx hb dX6_win_40 rfl (lv_at hl 2 rfl) ?_
  refine lv_imul hx hb dX6_win_41 ?_
  refine lv_iload_n hx hb dX6_win_42 rfl (lv_at hl 3 rfl) ?_
  refine lv_iadd hx hb dX6_win_43 ?_
  obtain ⟨hi11, h⟩ := gd_s h
  refine aR_I hx hb V 5 6 32 (by decide) rfl rfl hi11 dX6_win_44 ?_
  refine lv_dup2_11 hx hb dX6_win_45 rfl rfl ?_
  obtain ⟨hi12, h⟩ := gd_s h
  refine aR_I hx hb V 0 1 8 (by decide) rfl rfl hi12 dX6_win_46 ?_
  refine lv_iload_n hx hb dX6_win_47 rfl (lv_at hl 0 rfl) ?_
  refine lv_iload_n hx hb dX6_win_48 rfl (lv_at hl 0 rfl) ?_
  refine lv_bipush (v := 10) hx hb dX6_win_49 (by decide) ?_
  refine lv_idiv hx hb dX6_win_51 (by decide) ?_
  refine lv_isub hx hb dX6_win_52 ?_
  refine lv_iadd hx hb dX6_win_53 ?_
  refine bR_I hx hb V 0 1 8 (by decide) rfl rfl hi12 dX6_win_54 (fun H locs V => ?_)
  refine lv_aload_n hx hb dX6_win_55 rfl (lv_at hl 1 rfl) ?_
  refine gR_T hx hb hts hown (fun _ h => List.mem_cons_of_mem _ (List.mem_append_right _ h)) V 4 (by decide) (hts _ (List.mem_of_getElem? (i := 6) rfl)) (v := .ref (ad 3)) rfl dX6_win_56 ?_
  refine lv_aload_n hx hb dX6_win_59 rfl (lv_at hl 1 rfl) ?_
  refine gR_T hx hb hts hown (fun _ h => List.mem_cons_of_mem _ (List.mem_append_right _ h)) V 8 (by decide) (hts _ (List.mem_of_getElem? (i := 5) rfl)) (v := .ref (ad 6)) rfl dX6_win_60 ?_
  refine lv_iconst (v := 2) hx hb dX6_win_63 (by decide) ?_
  refine lv_iload_n hx hb dX6_win_64 rfl (lv_at hl 2 rfl) ?_
  refine lv_imul hx hb dX6_win_65 ?_
  refine lv_iload_n hx hb dX6_win_66 rfl (lv_at hl 3 rfl) ?_
  refine lv_iadd hx hb dX6_win_67 ?_
  refine aR_I hx hb V 5 6 32 (by decide) rfl rfl hi11 dX6_win_68 ?_
  refine lv_dup2_11 hx hb dX6_win_69 rfl rfl ?_
  obtain ⟨hi14, h⟩ := gd_s h
  refine aR_I hx hb V 2 3 8 (by decide) rfl rfl hi14 dX6_win_70 ?_
  refine lv_iconst (v := 1) hx hb dX6_win_71 (by decide) ?_
  refine lv_iadd hx hb dX6_win_72 ?_
  refine bR_I hx hb V 2 3 8 (by decide) rfl rfl hi14 dX6_win_73 (fun H locs V => ?_)
  refine lv_aload_n hx hb dX6_win_74 rfl (lv_at hl 1 rfl) ?_
  refine gR_T hx hb hts hown (fun _ h => List.mem_cons_of_mem _ (List.mem_append_right _ h)) V 5 (by decide) (hts _ (List.mem_of_getElem? (i := 7) rfl)) (v := .ref (ad 4)) rfl dX6_win_75 ?_
  refine lv_aload_n hx hb dX6_win_78 rfl (lv_at hl 1 rfl) ?_
  refine gR_T hx hb hts hown (fun _ h => List.mem_cons_of_mem _ (List.mem_append_right _ h)) V 8 (by decide) (hts _ (List.mem_of_getElem? (i := 5) rfl)) (v := .ref (ad 6)) rfl dX6_win_79 ?_
  refine lv_iconst (v := 2) hx hb dX6_win_82 (by decide) ?_
  refine lv_iload_n hx hb dX6_win_83 rfl (lv_at hl 2 rfl) ?_
  refine lv_imul hx hb dX6_win_84 ?_
  refine lv_iconst (v := 1) hx hb dX6_win_85 (by decide) ?_
  refine lv_iadd hx hb dX6_win_86 ?_
  refine lv_iload_n hx hb dX6_win_87 rfl (lv_at hl 3 rfl) ?_
  refine lv_isub hx hb dX6_win_88 ?_
  obtain ⟨hi15, h⟩ := gd_s h
  refine aR_I hx hb V 5 6 32 (by decide) rfl rfl hi15 dX6_win_89 ?_
  refine lv_dup2_11 hx hb dX6_win_90 rfl rfl ?_
  obtain ⟨hi16, h⟩ := gd_s h
  refine aR_I hx hb V 3 4 8 (by decide) rfl rfl hi16 dX6_win_91 ?_
  refine lv_iconst (v := 1) hx hb dX6_win_92 (by decide) ?_
  refine lv_iadd hx hb dX6_win_93 ?_
  refine bR_I hx hb V 3 4 8 (by decide) rfl rfl hi16 dX6_win_94 (fun H locs V => ?_)
  refine lv_iload_n hx hb dX6_win_95 rfl (lv_at hl 0 rfl) ?_
  refine lv_iload_n hx hb dX6_win_96 rfl (lv_at hl 0 rfl) ?_
  refine lv_bipush (v := 10) hx hb dX6_win_97 (by decide) ?_
  refine lv_idiv hx hb dX6_win_99 (by decide) ?_
  refine lv_isub hx hb dX6_win_100 ?_
  obtain rfl := Option.some.inj h
  exact m_iret hx hb hr hlk V (Nat.zero_le _) (Nat.zero_le _) dX6_win_101
-- X6_stop
def f_X6_stop_9 (N : Nat) (a1 : Int32)  : Nat → mSt → Int32 → Option (Unit × mSt)
  | 0, _, _ => none
  | n + 1, ρ, v2 => if 2 ≤ v2 then some ((), ρ) else if mIn ((2 * a1) + v2) 32 then if mIn (ρ 5 ((2 * a1) + v2).toNatClampNeg) 8 then if mIn a1 16 then f_X6_stop_9 N a1 n (mUp ρ 0 (ρ 5 ((2 * a1) + v2).toNatClampNeg).toNatClampNeg ((ρ 0 (ρ 5 ((2 * a1) + v2).toNatClampNeg).toNatClampNeg) + (ρ 10 a1.toNatClampNeg))) (v2 + 1) else none else none else none
set_option maxHeartbeats 4000000 in
set_option maxRecDepth 100000 in
theorem w_X6_stop_9 {l : Launch} {D : va_G} {y : Nat → ClassId} {ad : Nat → Nat} {N : Nat} {p : Program} {e : Env} {s : State} {m : MethodId} {args : Array Value} {below : List Frame} {meth : Method} {c : Code} (hB : mBd p s m args meth c cX6_stop 3 wsX6_stop RX6 none) {a1 : Int32} {q : Unit × mSt}   : ∀ (n : Nat) (ρ : mSt) (v2 : Int32), f_X6_stop_9 N a1  n ρ v2 = some q → ∀ (H : Heap) (locs : List Loc) (ls : Array Slot), mV D y (mFree 21 ad s.heap.size) s s.heap H locs 21 ad (mR y ad ρ) → lv_has ls 3 [(0, .ref (ad 0)), (1, .int a1), (2, .int v2)] → W p l e { frames := 0, cells := 0, slots := 0, locals := 0 } s m args below meth c H locs 0 0 (MQ below (mQ none D 21 ad (mR y ad q.2) s.heap.size) args s 0 0 (mFree 21 ad s.heap.size)) (F0 m 9 ls []) := by
  obtain ⟨hx, hb, hml, hown, hts, hr, hlk⟩ := id hB
  intro n
  induction n with
  | zero =>
    intro ρ v2 h
    exact nomatch h
  | succ n ih =>
    intro ρ v2 h H locs ls V hl
    rw [f_X6_stop_9] at h
    refine lv_iload_n hx hb dX6_stop_9 rfl (lv_at hl 2 rfl) ?_
    refine lv_iconst (v := 2) hx hb dX6_stop_10 (by decide) ?_
    refine lv_icmp_ge (tgt := 44) hx hb dX6_stop_11 (by decide) (fun hc6 => ?_) (fun hc6 => ?_)
    · replace h := ite_t hc6 h
      obtain rfl := Option.some.inj h
      exact m_vret hx hb hr hlk V (Nat.zero_le _) (Nat.zero_le _) dX6_stop_44
    · replace h := ite_f hc6 h
      refine lv_aload_n hx hb dX6_stop_14 rfl (lv_at hl 0 rfl) ?_
      refine gR_T hx hb hts hown (fun _ h => List.mem_cons_of_mem _ (List.mem_append_right _ h)) V 2 (by decide) (hts _ (List.mem_of_getElem? (i := 2) rfl)) (v := .ref (ad 1)) rfl dX6_stop_15 ?_
      refine lv_aload_n hx hb dX6_stop_18 rfl (lv_at hl 0 rfl) ?_
      refine gR_T hx hb hts hown (fun _ h => List.mem_cons_of_mem _ (List.mem_append_right _ h)) V 8 (by decide) (hts _ (List.mem_of_getElem? (i := 3) rfl)) (v := .ref (ad 6)) rfl dX6_stop_19 ?_
      refine lv_iconst (v := 2) hx hb dX6_stop_22 (by decide) ?_
      refine lv_iload_n hx hb dX6_stop_23 rfl (lv_at hl 1 rfl) ?_
      refine lv_imul hx hb dX6_stop_24 ?_
      refine lv_iload_n hx hb dX6_stop_25 rfl (lv_at hl 2 rfl) ?_
      refine lv_iadd hx hb dX6_stop_26 ?_
      obtain ⟨hi7, h⟩ := gd_s h
      refine aR_I hx hb V 5 6 32 (by decide) rfl rfl hi7 dX6_stop_27 ?_
      refine lv_dup2_11 hx hb dX6_stop_28 rfl rfl ?_
      obtain ⟨hi8, h⟩ := gd_s h
      refine aR_I hx hb V 0 1 8 (by decide) rfl rfl hi8 dX6_stop_29 ?_
      refine lv_aload_n hx hb dX6_stop_30 rfl (lv_at hl 0 rfl) ?_
      refine gR_T hx hb hts hown (fun _ h => List.mem_cons_of_mem _ (List.mem_append_right _ h)) V 13 (by decide) (hts _ (List.mem_of_getElem? (i := 4) rfl)) (v := .ref (ad 11)) rfl dX6_stop_31 ?_
      refine lv_iload_n hx hb dX6_stop_34 rfl (lv_at hl 1 rfl) ?_
      obtain ⟨hi9, h⟩ := gd_s h
      refine aR_I hx hb V 10 11 16 (by decide) rfl rfl hi9 dX6_stop_35 ?_
      refine lv_iadd hx hb dX6_stop_36 ?_
      refine bR_I hx hb V 0 1 8 (by decide) rfl rfl hi8 dX6_stop_37 (fun H locs V => ?_)
      refine lv_iinc (v := v2 + 1) (lv' := [(2, .int (v2 + 1)), (0, .ref (ad 0)), (1, .int a1)]) hx hb dX6_stop_38 hl (k := 2) rfl rfl (by decide) rfl (fun ls hl => ?_)
      refine lv_goto (tgt := 9) hx hb dX6_stop_41 (by decide) ?_
      exact ih _ _ h _ _ _ V (lv_sub hl [1, 2, 0] rfl)
def f_X6_stop (N : Nat) (ρ : mSt) (a1 : Int32) : Option (Unit × mSt) := if mIn a1 16 then f_X6_stop_9 N a1 N (mUp ρ 14 a1.toNatClampNeg 3) 0 else none
set_option maxHeartbeats 4000000 in
set_option maxRecDepth 100000 in
theorem c_X6_stop {l : Launch} {D : va_G} {y : Nat → ClassId} {ad : Nat → Nat} {N : Nat} {ρ : mSt} {a1 : Int32} {q : Unit × mSt} (h : f_X6_stop N ρ a1 = some q) : mC l yX6_stop wsX6_stop { frames := 0, cells := 0, slots := 0, locals := 0 } D y 21 ad mX0 (mR y ad ρ) [.ref (ad 0), .int a1] none (mR y ad q.2) 0 0 := by
  refine m_start (cc := cX6_stop) (maxL := 3) (ret := none) (by decide) rfl (Nat.le_of_ble_eq_true rfl) (fun p e s m args below meth c ls hB _ V _ hl => ?_)
  obtain ⟨hx, hb, hml, hown, hts, hr, hlk⟩ := id hB
  have hl : lv_has ls 3 [(0, .ref (ad 0)), (1, .int a1)] := hl
  rw [f_X6_stop] at h
  refine lv_aload_n hx hb dX6_stop_0 rfl (lv_at hl 0 rfl) ?_
  refine gR_T hx hb hts hown (fun _ h => List.mem_cons_of_mem _ (List.mem_append_right _ h)) V 17 (by decide) (hts _ (List.mem_of_getElem? (i := 1) rfl)) (v := .ref (ad 15)) rfl dX6_stop_1 ?_
  refine lv_iload_n hx hb dX6_stop_4 rfl (lv_at hl 1 rfl) ?_
  refine lv_iconst (v := 3) hx hb dX6_stop_5 (by decide) ?_
  obtain ⟨hi10, h⟩ := gd_s h
  refine bR_I hx hb V 14 15 16 (by decide) rfl rfl hi10 dX6_stop_6 (fun H locs V => ?_)
  refine lv_iconst (v := 0) hx hb dX6_stop_7 (by decide) ?_
  refine lv_istore_n (lv' := [(2, .int 0), (0, .ref (ad 0)), (1, .int a1)]) hx hb dX6_stop_8 rfl hl (by decide) rfl (fun ls hl => ?_)
  exact w_X6_stop_9 hB _ _ _ h _ _ _ V (lv_sub hl [1, 2, 0] rfl)
-- X6_goBack
def f_X6_goBack (N : Nat) (ρ : mSt) (a1 : Int32) : Option (Unit × mSt) := some ((), (mUp (mUp ρ 24 0 ((ρ 24 0) + a1)) 26 0 (((mUp ρ 24 0 ((ρ 24 0) + a1)) 26 0) - a1)))
set_option maxHeartbeats 4000000 in
set_option maxRecDepth 100000 in
theorem c_X6_goBack {l : Launch} {D : va_G} {y : Nat → ClassId} {ad : Nat → Nat} {N : Nat} {ρ : mSt} {a1 : Int32} {q : Unit × mSt} (h : f_X6_goBack N ρ a1 = some q) : mC l yX6_goBack wsX6_goBack { frames := 0, cells := 0, slots := 0, locals := 0 } D y 21 ad mX0 (mR y ad ρ) [.ref (ad 0), .int a1] none (mR y ad q.2) 0 0 := by
  refine m_start (cc := cX6_goBack) (maxL := 2) (ret := none) (by decide) rfl (Nat.le_of_ble_eq_true rfl) (fun p e s m args below meth c ls hB _ V _ hl => ?_)
  obtain ⟨hx, hb, hml, hown, hts, hr, hlk⟩ := id hB
  have hl : lv_has ls 2 [(0, .ref (ad 0)), (1, .int a1)] := hl
  rw [f_X6_goBack] at h
  refine lv_aload_n hx hb dX6_goBack_0 rfl (lv_at hl 0 rfl) ?_
  refine lv_dup hx hb dX6_goBack_1 rfl ?_
  refine gR_T hx hb hts hown (fun _ h => List.mem_cons_of_mem _ (List.mem_append_right _ h)) V 24 (by decide) (hts _ (List.mem_of_getElem? (i := 1) rfl)) (v := .int (ρ 24 0)) rfl dX6_goBack_2 ?_
  refine lv_iload_n hx hb dX6_goBack_5 rfl (lv_at hl 1 rfl) ?_
  refine lv_iadd hx hb dX6_goBack_6 ?_
  refine pR_T hx hb hts hown (fun _ h => List.mem_cons_of_mem _ (List.mem_append_right _ h)) V 24 24 (by decide) (by decide) (hts _ (List.mem_of_getElem? (i := 1) rfl)) rfl (mR0_s24 _ _ _) dX6_goBack_7 (fun H locs V => ?_)
  refine lv_aload_n hx hb dX6_goBack_10 rfl (lv_at hl 0 rfl) ?_
  refine lv_dup hx hb dX6_goBack_11 rfl ?_
  refine gR_T hx hb hts hown (fun _ h => List.mem_cons_of_mem _ (List.mem_append_right _ h)) V 26 (by decide) (hts _ (List.mem_of_getElem? (i := 2) rfl)) (v := .int ((mUp ρ 24 0 ((ρ 24 0) + a1)) 26 0)) rfl dX6_goBack_12 ?_
  refine lv_iload_n hx hb dX6_goBack_15 rfl (lv_at hl 1 rfl) ?_
  refine lv_isub hx hb dX6_goBack_16 ?_
  refine pR_T hx hb hts hown (fun _ h => List.mem_cons_of_mem _ (List.mem_append_right _ h)) V 26 26 (by decide) (by decide) (hts _ (List.mem_of_getElem? (i := 2) rfl)) rfl (mR0_s26 _ _ _) dX6_goBack_17 (fun H locs V => ?_)
  obtain rfl := Option.some.inj h
  exact m_vret hx hb hr hlk V (Nat.zero_le _) (Nat.zero_le _) dX6_goBack_20
-- X6_collect
def f_X6_collect_36 (N : Nat) (a1 : Int32)  : Nat → mSt → Int32 → Int32 → Int32 → Option (Unit × mSt)
  | 0, _, _, _, _ => none
  | n + 1, ρ, v2, v3, v4 => if (2 * (ρ 22 0)) ≤ v4 then if mIn a1 20 then (f_X6_goBack N (mUp ρ 16 a1.toNatClampNeg ((ρ 16 a1.toNatClampNeg) - v3)) v3).bind fun q19 => if (q19.2 16 a1.toNatClampNeg) = 0 then some ((), (mUp q19.2 19 a1.toNatClampNeg 1)) else some ((), (mUp q19.2 19 a1.toNatClampNeg 2)) else none else (f_X6_runs N ρ (v4 / 2)).bind fun q22 => if q22.1 = 0 then f_X6_collect_36 N a1 n q22.2 v2 v3 (v4 + 1) else if mIn v4 32 then if (q22.2 5 v4.toNatClampNeg) = v2 then if mIn a1 20 then f_X6_collect_36 N a1 n (mUp q22.2 6 v4.toNatClampNeg ((q22.2 6 v4.toNatClampNeg) - (mMin ((q22.2 16 a1.toNatClampNeg) - v3) ((q22.2 6 v4.toNatClampNeg) - 1)))) v2 (v3 + (mMin ((q22.2 16 a1.toNatClampNeg) - v3) ((q22.2 6 v4.toNatClampNeg) - 1))) (v4 + 1) else none else f_X6_collect_36 N a1 n q22.2 v2 v3 (v4 + 1) else none
set_option maxHeartbeats 4000000 in
set_option maxRecDepth 100000 in
theorem w_X6_collect_36 {l : Launch} {D : va_G} {y : Nat → ClassId} {ad : Nat → Nat} {N : Nat} {p : Program} {e : Env} {s : State} {m : MethodId} {args : Array Value} {below : List Frame} {meth : Method} {c : Code} (hB : mBd p s m args meth c cX6_collect 6 wsX6_collect RX6 none) {a1 : Int32} {q : Unit × mSt}   : ∀ (n : Nat) (ρ : mSt) (v2 : Int32) (v3 : Int32) (v4 : Int32), f_X6_collect_36 N a1  n ρ v2 v3 v4 = some q → ∀ (H : Heap) (locs : List Loc) (ls : Array Slot), mV D y (mFree 21 ad s.heap.size) s s.heap H locs 21 ad (mR y ad ρ) → lv_has ls 6 [(0, .ref (ad 0)), (1, .int a1), (2, .int v2), (3, .int v3), (4, .int v4)] → W p l e { frames := 1, cells := 0, slots := 0, locals := 21 } s m args below meth c H locs 0 0 (MQ below (mQ none D 21 ad (mR y ad q.2) s.heap.size) args s 0 0 (mFree 21 ad s.heap.size)) (F0 m 36 ls []) := by
  obtain ⟨hx, hb, hml, hown, hts, hr, hlk⟩ := id hB
  intro n
  induction n with
  | zero =>
    intro ρ v2 v3 v4 h
    exact nomatch h
  | succ n ih =>
    intro ρ v2 v3 v4 h H locs ls V hl
    rw [f_X6_collect_36] at h
    refine lv_iload hx hb dX6_collect_36 (lv_at hl 4 rfl) ?_
    refine lv_iconst (v := 2) hx hb dX6_collect_38 (by decide) ?_
    refine lv_aload_n hx hb dX6_collect_39 rfl (lv_at hl 0 rfl) ?_
    refine gR_T hx hb hts hown (fun _ h => List.mem_cons_of_mem _ (List.mem_append_right _ h)) V 7 (by decide) (hts _ (List.mem_of_getElem? (i := 8) rfl)) (v := .int (ρ 22 0)) rfl dX6_collect_40 ?_
    refine lv_imul hx hb dX6_collect_43 ?_
    refine lv_icmp_ge (tgt := 117) hx hb dX6_collect_44 (by decide) (fun hc17 => ?_) (fun hc17 => ?_)
    · replace h := ite_t hc17 h
      refine lv_aload_n hx hb dX6_collect_117 rfl (lv_at hl 0 rfl) ?_
      refine gR_T hx hb hts hown (fun _ h => List.mem_cons_of_mem _ (List.mem_append_right _ h)) V 20 (by decide) (hts _ (List.mem_of_getElem? (i := 2) rfl)) (v := .ref (ad 17)) rfl dX6_collect_118 ?_
      refine lv_iload_n hx hb dX6_collect_121 rfl (lv_at hl 1 rfl) ?_
      refine lv_dup2_11 hx hb dX6_collect_122 rfl rfl ?_
      obtain ⟨hi18, h⟩ := gd_s h
      refine aR_I hx hb V 16 17 20 (by decide) rfl rfl hi18 dX6_collect_123 ?_
      refine lv_iload_n hx hb dX6_collect_124 rfl (lv_at hl 3 rfl) ?_
      refine lv_isub hx hb dX6_collect_125 ?_
      refine bR_I hx hb V 16 17 20 (by decide) rfl rfl hi18 dX6_collect_126 (fun H locs V => ?_)
      refine lv_aload_n hx hb dX6_collect_127 rfl (lv_at hl 0 rfl) ?_
      refine lv_iload_n hx hb dX6_collect_128 rfl (lv_at hl 3 rfl) ?_
      obtain ⟨q19, hq19, h⟩ := bd_s h
      refine kRR (As := [.int v3]) (rest := []) ⟨hx, hb, hml, hown, hts⟩ V (c_X6_goBack (l := l) (D := D) (y := y) (ad := ad) hq19) (cwV 1 hts gX6_collect_X6_goBack rfl rfl rfl (by decide +kernel) ⟨Nat.le_of_ble_eq_true rfl, Nat.le_of_ble_eq_true rfl⟩) (by omega) (mR_T y ad _) rfl rfl hl.1 rfl (Nat.le_of_ble_eq_true rfl) ⟨Nat.zero_le _, Nat.zero_le _⟩ rfl dX6_collect_129 (fun H locs V => ?_)
      refine lv_aload_n hx hb dX6_collect_132 rfl (lv_at hl 0 rfl) ?_
      refine gR_T hx hb hts hown (fun _ h => List.mem_cons_of_mem _ (List.mem_append_right _ h)) V 23 (by decide) (hts _ (List.mem_of_getElem? (i := 11) rfl)) (v := .ref (ad 20)) rfl dX6_collect_133 ?_
      refine lv_iload_n hx hb dX6_collect_136 rfl (lv_at hl 1 rfl) ?_
      refine lv_aload_n hx hb dX6_collect_137 rfl (lv_at hl 0 rfl) ?_
      refine gR_T hx hb hts hown (fun _ h => List.mem_cons_of_mem _ (List.mem_append_right _ h)) V 20 (by decide) (hts _ (List.mem_of_getElem? (i := 2) rfl)) (v := .ref (ad 17)) rfl dX6_collect_138 ?_
      refine lv_iload_n hx hb dX6_collect_141 rfl (lv_at hl 1 rfl) ?_
      refine aR_I hx hb V 16 17 20 (by decide) rfl rfl hi18 dX6_collect_142 ?_
      refine lv_if_ne (tgt := 150) hx hb dX6_collect_143 (by decide) (fun hc21 => ?_) (fun hc21 => ?_)
      · replace h := ite_f hc21 h
        refine lv_iconst (v := 2) hx hb dX6_collect_150 (by decide) ?_
        refine bR_I hx hb V 19 20 20 (by decide) rfl rfl hi18 dX6_collect_151 (fun H locs V => ?_)
        obtain rfl := Option.some.inj h
        exact m_vret hx hb hr hlk V (Nat.zero_le _) (Nat.zero_le _) dX6_collect_152
      · replace h := ite_t hc21 h
        refine lv_iconst (v := 1) hx hb dX6_collect_146 (by decide) ?_
        refine lv_goto (tgt := 151) hx hb dX6_collect_147 (by decide) ?_
        refine bR_I hx hb V 19 20 20 (by decide) rfl rfl hi18 dX6_collect_151 (fun H locs V => ?_)
        obtain rfl := Option.some.inj h
        exact m_vret hx hb hr hlk V (Nat.zero_le _) (Nat.zero_le _) dX6_collect_152
    · replace h := ite_f hc17 h
      refine lv_aload_n hx hb dX6_collect_47 rfl (lv_at hl 0 rfl) ?_
      refine lv_iload hx hb dX6_collect_48 (lv_at hl 4 rfl) ?_
      refine lv_iconst (v := 2) hx hb dX6_collect_50 (by decide) ?_
      refine lv_idiv hx hb dX6_collect_51 (by decide) ?_
      obtain ⟨q22, hq22, h⟩ := bd_s h
      refine kRR (As := [.int (v4 / 2)]) (rest := []) ⟨hx, hb, hml, hown, hts⟩ V (c_X6_runs (l := l) (D := D) (y := y) (ad := ad) hq22) (cwV 1 hts gX6_collect_X6_runs rfl rfl rfl (by decide +kernel) ⟨Nat.le_of_ble_eq_true rfl, Nat.le_of_ble_eq_true rfl⟩) (by omega) (mR_T y ad _) rfl rfl hl.1 rfl (Nat.le_of_ble_eq_true rfl) ⟨Nat.zero_le _, Nat.zero_le _⟩ rfl dX6_collect_52 (fun H locs V => ?_)
      refine lv_if_eq (tgt := 111) hx hb dX6_collect_55 (by decide) (fun hc23 => ?_) (fun hc23 => ?_)
      · replace h := ite_t hc23 h
        refine lv_iinc (v := v4 + 1) (lv' := [(4, .int (v4 + 1)), (0, .ref (ad 0)), (1, .int a1), (2, .int v2), (3, .int v3)]) hx hb dX6_collect_111 hl (k := 4) rfl rfl (by decide) rfl (fun ls hl => ?_)
        refine lv_goto (tgt := 36) hx hb dX6_collect_114 (by decide) ?_
        exact ih _ _ _ _ h _ _ _ V (lv_sub hl [1, 2, 3, 4, 0] rfl)
      · replace h := ite_f hc23 h
        refine lv_aload_n hx hb dX6_collect_58 rfl (lv_at hl 0 rfl) ?_
        refine gR_T hx hb hts hown (fun _ h => List.mem_cons_of_mem _ (List.mem_append_right _ h)) V 8 (by decide) (hts _ (List.mem_of_getElem? (i := 9) rfl)) (v := .ref (ad 6)) rfl dX6_collect_59 ?_
        refine lv_iload hx hb dX6_collect_62 (lv_at hl 4 rfl) ?_
        obtain ⟨hi24, h⟩ := gd_s h
        refine aR_I hx hb V 5 6 32 (by decide) rfl rfl hi24 dX6_collect_64 ?_
        refine lv_iload_n hx hb dX6_collect_65 rfl (lv_at hl 2 rfl) ?_
        refine lv_icmp_eq (tgt := 72) hx hb dX6_collect_66 (by decide) (fun hc25 => ?_) (fun hc25 => ?_)
        · replace h := ite_t hc25 h
          refine lv_aload_n hx hb dX6_collect_72 rfl (lv_at hl 0 rfl) ?_
          refine gR_T hx hb hts hown (fun _ h => List.mem_cons_of_mem _ (List.mem_append_right _ h)) V 20 (by decide) (hts _ (List.mem_of_getElem? (i := 2) rfl)) (v := .ref (ad 17)) rfl dX6_collect_73 ?_
          refine lv_iload_n hx hb dX6_collect_76 rfl (lv_at hl 1 rfl) ?_
          obtain ⟨hi26, h⟩ := gd_s h
          refine aR_I hx hb V 16 17 20 (by decide) rfl rfl hi26 dX6_collect_77 ?_
          refine lv_iload_n hx hb dX6_collect_78 rfl (lv_at hl 3 rfl) ?_
          refine lv_isub hx hb dX6_collect_79 ?_
          refine lv_aload_n hx hb dX6_collect_80 rfl (lv_at hl 0 rfl) ?_
          refine gR_T hx hb hts hown (fun _ h => List.mem_cons_of_mem _ (List.mem_append_right _ h)) V 9 (by decide) (hts _ (List.mem_of_getElem? (i := 10) rfl)) (v := .ref (ad 7)) rfl dX6_collect_81 ?_
          refine lv_iload hx hb dX6_collect_84 (lv_at hl 4 rfl) ?_
          refine aR_I hx hb V 6 7 32 (by decide) rfl rfl hi24 dX6_collect_86 ?_
          refine lv_iconst (v := 1) hx hb dX6_collect_87 (by decide) ?_
          refine lv_isub hx hb dX6_collect_88 ?_
          refine m_min hx hb hml hl.1 hown (hts _ (List.mem_of_getElem? (i := 4) rfl)) (hts _ (List.mem_of_getElem? (i := 5) rfl)) (hts _ (List.mem_of_getElem? (i := 6) rfl)) (hts _ (List.mem_of_getElem? (i := 7) rfl)) (Nat.le_of_ble_eq_true rfl) (Nat.le_of_ble_eq_true rfl) (Nat.zero_le _) (Nat.zero_le _) dX6_collect_89 ?_
          refine lv_istore (lv' := [(5, .int (mMin ((q22.2 16 a1.toNatClampNeg) - v3) ((q22.2 6 v4.toNatClampNeg) - 1))), (0, .ref (ad 0)), (1, .int a1), (2, .int v2), (3, .int v3), (4, .int v4)]) hx hb dX6_collect_92 hl (by decide) rfl (fun ls hl => ?_)
          refine lv_aload_n hx hb dX6_collect_94 rfl (lv_at hl 1 rfl) ?_
          refine gR_T hx hb hts hown (fun _ h => List.mem_cons_of_mem _ (List.mem_append_right _ h)) V 9 (by decide) (hts _ (List.mem_of_getElem? (i := 10) rfl)) (v := .ref (ad 7)) rfl dX6_collect_95 ?_
          refine lv_iload hx hb dX6_collect_98 (lv_at hl 5 rfl) ?_
          refine lv_dup2_11 hx hb dX6_collect_100 rfl rfl ?_
          refine aR_I hx hb V 6 7 32 (by decide) rfl rfl hi24 dX6_collect_101 ?_
          refine lv_iload hx hb dX6_collect_102 (lv_at hl 0 rfl) ?_
          refine lv_isub hx hb dX6_collect_104 ?_
          refine bR_I hx hb V 6 7 32 (by decide) rfl rfl hi24 dX6_collect_105 (fun H locs V => ?_)
          refine lv_iload_n hx hb dX6_collect_106 rfl (lv_at hl 4 rfl) ?_
          refine lv_iload hx hb dX6_collect_107 (lv_at hl 0 rfl) ?_
          refine lv_iadd hx hb dX6_collect_109 ?_
          refine lv_istore_n (lv' := [(3, .int (v3 + (mMin ((q22.2 16 a1.toNatClampNeg) - v3) ((q22.2 6 v4.toNatClampNeg) - 1)))), (5, .int (mMin ((q22.2 16 a1.toNatClampNeg) - v3) ((q22.2 6 v4.toNatClampNeg) - 1))), (0, .ref (ad 0)), (1, .int a1), (2, .int v2), (4, .int v4)]) hx hb dX6_collect_110 rfl hl (by decide) rfl (fun ls hl => ?_)
          refine lv_iinc (v := v4 + 1) (lv' := [(4, .int (v4 + 1)), (3, .int (v3 + (mMin ((q22.2 16 a1.toNatClampNeg) - v3) ((q22.2 6 v4.toNatClampNeg) - 1)))), (5, .int (mMin ((q22.2 16 a1.toNatClampNeg) - v3) ((q22.2 6 v4.toNatClampNeg) - 1))), (0, .ref (ad 0)), (1, .int a1), (2, .int v2)]) hx hb dX6_collect_111 hl (k := 5) rfl rfl (by decide) rfl (fun ls hl => ?_)
          refine lv_goto (tgt := 36) hx hb dX6_collect_114 (by decide) ?_
          exact ih _ _ _ _ h _ _ _ V (lv_sub hl [3, 4, 5, 1, 0] rfl)
        · replace h := ite_f hc25 h
          refine lv_goto (tgt := 111) hx hb dX6_collect_69 (by decide) ?_
          refine lv_iinc (v := v4 + 1) (lv' := [(4, .int (v4 + 1)), (0, .ref (ad 0)), (1, .int a1), (2, .int v2), (3, .int v3)]) hx hb dX6_collect_111 hl (k := 4) rfl rfl (by decide) rfl (fun ls hl => ?_)
          refine lv_goto (tgt := 36) hx hb dX6_collect_114 (by decide) ?_
          exact ih _ _ _ _ h _ _ _ V (lv_sub hl [1, 2, 3, 4, 0] rfl)
def f_X6_collect (N : Nat) (ρ : mSt) (a1 : Int32) : Option (Unit × mSt) := if mIn a1 20 then if mIn (ρ 15 a1.toNatClampNeg) 8 then f_X6_collect_36 N a1 N (mUp ρ 1 (ρ 15 a1.toNatClampNeg).toNatClampNeg ((ρ 1 (ρ 15 a1.toNatClampNeg).toNatClampNeg) - (mMin (ρ 16 a1.toNatClampNeg) (ρ 1 (ρ 15 a1.toNatClampNeg).toNatClampNeg)))) (ρ 15 a1.toNatClampNeg) (mMin (ρ 16 a1.toNatClampNeg) (ρ 1 (ρ 15 a1.toNatClampNeg).toNatClampNeg)) 0 else none else none
set_option maxHeartbeats 4000000 in
set_option maxRecDepth 100000 in
theorem c_X6_collect {l : Launch} {D : va_G} {y : Nat → ClassId} {ad : Nat → Nat} {N : Nat} {ρ : mSt} {a1 : Int32} {q : Unit × mSt} (h : f_X6_collect N ρ a1 = some q) : mC l yX6_collect wsX6_collect { frames := 1, cells := 0, slots := 0, locals := 21 } D y 21 ad mX0 (mR y ad ρ) [.ref (ad 0), .int a1] none (mR y ad q.2) 0 0 := by
  refine m_start (cc := cX6_collect) (maxL := 6) (ret := none) (by decide) rfl (Nat.le_of_ble_eq_true rfl) (fun p e s m args below meth c ls hB _ V _ hl => ?_)
  obtain ⟨hx, hb, hml, hown, hts, hr, hlk⟩ := id hB
  have hl : lv_has ls 6 [(0, .ref (ad 0)), (1, .int a1)] := hl
  rw [f_X6_collect] at h
  refine lv_aload_n hx hb dX6_collect_0 rfl (lv_at hl 0 rfl) ?_
  refine gR_T hx hb hts hown (fun _ h => List.mem_cons_of_mem _ (List.mem_append_right _ h)) V 19 (by decide) (hts _ (List.mem_of_getElem? (i := 1) rfl)) (v := .ref (ad 16)) rfl dX6_collect_1 ?_
  refine lv_iload_n hx hb dX6_collect_4 rfl (lv_at hl 1 rfl) ?_
  obtain ⟨hi29, h⟩ := gd_s h
  refine aR_I hx hb V 15 16 20 (by decide) rfl rfl hi29 dX6_collect_5 ?_
  refine lv_istore_n (lv' := [(2, .int (ρ 15 a1.toNatClampNeg)), (0, .ref (ad 0)), (1, .int a1)]) hx hb dX6_collect_6 rfl hl (by decide) rfl (fun ls hl => ?_)
  refine lv_aload_n hx hb dX6_collect_7 rfl (lv_at hl 1 rfl) ?_
  refine gR_T hx hb hts hown (fun _ h => List.mem_cons_of_mem _ (List.mem_append_right _ h)) V 20 (by decide) (hts _ (List.mem_of_getElem? (i := 2) rfl)) (v := .ref (ad 17)) rfl dX6_collect_8 ?_
  refine lv_iload_n hx hb dX6_collect_11 rfl (lv_at hl 2 rfl) ?_
  refine aR_I hx hb V 16 17 20 (by decide) rfl rfl hi29 dX6_collect_12 ?_
  refine lv_aload_n hx hb dX6_collect_13 rfl (lv_at hl 1 rfl) ?_
  refine gR_T hx hb hts hown (fun _ h => List.mem_cons_of_mem _ (List.mem_append_right _ h)) V 3 (by decide) (hts _ (List.mem_of_getElem? (i := 3) rfl)) (v := .ref (ad 2)) rfl dX6_collect_14 ?_
  refine lv_iload_n hx hb dX6_collect_17 rfl (lv_at hl 0 rfl) ?_
  obtain ⟨hi31, h⟩ := gd_s h
  refine aR_I hx hb V 1 2 8 (by decide) rfl rfl hi31 dX6_collect_18 ?_
  refine m_min hx hb hml hl.1 hown (hts _ (List.mem_of_getElem? (i := 4) rfl)) (hts _ (List.mem_of_getElem? (i := 5) rfl)) (hts _ (List.mem_of_getElem? (i := 6) rfl)) (hts _ (List.mem_of_getElem? (i := 7) rfl)) (Nat.le_of_ble_eq_true rfl) (Nat.le_of_ble_eq_true rfl) (Nat.zero_le _) (Nat.zero_le _) dX6_collect_19 ?_
  refine lv_istore_n (lv' := [(3, .int (mMin (ρ 16 a1.toNatClampNeg) (ρ 1 (ρ 15 a1.toNatClampNeg).toNatClampNeg))), (2, .int (ρ 15 a1.toNatClampNeg)), (0, .ref (ad 0)), (1, .int a1)]) hx hb dX6_collect_22 rfl hl (by decide) rfl (fun ls hl => ?_)
  refine lv_aload_n hx hb dX6_collect_23 rfl (lv_at hl 2 rfl) ?_
  refine gR_T hx hb hts hown (fun _ h => List.mem_cons_of_mem _ (List.mem_append_right _ h)) V 3 (by decide) (hts _ (List.mem_of_getElem? (i := 3) rfl)) (v := .ref (ad 2)) rfl dX6_collect_24 ?_
  refine lv_iload_n hx hb dX6_collect_27 rfl (lv_at hl 1 rfl) ?_
  refine lv_dup2_11 hx hb dX6_collect_28 rfl rfl ?_
  refine aR_I hx hb V 1 2 8 (by decide) rfl rfl hi31 dX6_collect_29 ?_
  refine lv_iload_n hx hb dX6_collect_30 rfl (lv_at hl 0 rfl) ?_
  refine lv_isub hx hb dX6_collect_31 ?_
  refine bR_I hx hb V 1 2 8 (by decide) rfl rfl hi31 dX6_collect_32 (fun H locs V => ?_)
  refine lv_iconst (v := 0) hx hb dX6_collect_33 (by decide) ?_
  refine lv_istore (lv' := [(4, .int 0), (3, .int (mMin (ρ 16 a1.toNatClampNeg) (ρ 1 (ρ 15 a1.toNatClampNeg).toNatClampNeg))), (2, .int (ρ 15 a1.toNatClampNeg)), (0, .ref (ad 0)), (1, .int a1)]) hx hb dX6_collect_34 hl (by decide) rfl (fun ls hl => ?_)
  exact w_X6_collect_36 hB _ _ _ _ _ h _ _ _ V (lv_sub hl [3, 4, 2, 1, 0] rfl)
-- X6_look
def f_X6_look_2 (N : Nat) (a1 : Int32)  : Nat → mSt → Int32 → Option (Unit × mSt)
  | 0, _, _ => none
  | n + 1, ρ, v2 => if 2 ≤ v2 then some ((), ρ) else if mIn ((2 * a1) + v2) 32 then if 15 ≤ (ρ 7 ((2 * a1) + v2).toNatClampNeg) then if mIn (((2 * a1) + 1) - v2) 32 then if mIn ((mUp (mUp (mUp ρ 6 ((2 * a1) + v2).toNatClampNeg ((ρ 6 ((2 * a1) + v2).toNatClampNeg) - (mMin (2 * (ρ 7 ((2 * a1) + v2).toNatClampNeg)) ((ρ 6 ((2 * a1) + v2).toNatClampNeg) - 1)))) 6 (((2 * a1) + 1) - v2).toNatClampNeg (((mUp ρ 6 ((2 * a1) + v2).toNatClampNeg ((ρ 6 ((2 * a1) + v2).toNatClampNeg) - (mMin (2 * (ρ 7 ((2 * a1) + v2).toNatClampNeg)) ((ρ 6 ((2 * a1) + v2).toNatClampNeg) - 1)))) 6 (((2 * a1) + 1) - v2).toNatClampNeg) + (mMin (2 * (ρ 7 ((2 * a1) + v2).toNatClampNeg)) ((ρ 6 ((2 * a1) + v2).toNatClampNeg) - 1)))) 7 ((2 * a1) + v2).toNatClampNeg 0) 5 ((2 * a1) + v2).toNatClampNeg) 8 then f_X6_look_2 N a1 n (mUp (mUp (mUp (mUp ρ 6 ((2 * a1) + v2).toNatClampNeg ((ρ 6 ((2 * a1) + v2).toNatClampNeg) - (mMin (2 * (ρ 7 ((2 * a1) + v2).toNatClampNeg)) ((ρ 6 ((2 * a1) + v2).toNatClampNeg) - 1)))) 6 (((2 * a1) + 1) - v2).toNatClampNeg (((mUp ρ 6 ((2 * a1) + v2).toNatClampNeg ((ρ 6 ((2 * a1) + v2).toNatClampNeg) - (mMin (2 * (ρ 7 ((2 * a1) + v2).toNatClampNeg)) ((ρ 6 ((2 * a1) + v2).toNatClampNeg) - 1)))) 6 (((2 * a1) + 1) - v2).toNatClampNeg) + (mMin (2 * (ρ 7 ((2 * a1) + v2).toNatClampNeg)) ((ρ 6 ((2 * a1) + v2).toNatClampNeg) - 1)))) 7 ((2 * a1) + v2).toNatClampNeg 0) 4 ((mUp (mUp (mUp ρ 6 ((2 * a1) + v2).toNatClampNeg ((ρ 6 ((2 * a1) + v2).toNatClampNeg) - (mMin (2 * (ρ 7 ((2 * a1) + v2).toNatClampNeg)) ((ρ 6 ((2 * a1) + v2).toNatClampNeg) - 1)))) 6 (((2 * a1) + 1) - v2).toNatClampNeg (((mUp ρ 6 ((2 * a1) + v2).toNatClampNeg ((ρ 6 ((2 * a1) + v2).toNatClampNeg) - (mMin (2 * (ρ 7 ((2 * a1) + v2).toNatClampNeg)) ((ρ 6 ((2 * a1) + v2).toNatClampNeg) - 1)))) 6 (((2 * a1) + 1) - v2).toNatClampNeg) + (mMin (2 * (ρ 7 ((2 * a1) + v2).toNatClampNeg)) ((ρ 6 ((2 * a1) + v2).toNatClampNeg) - 1)))) 7 ((2 * a1) + v2).toNatClampNeg 0) 5 ((2 * a1) + v2).toNatClampNeg).toNatClampNeg (((mUp (mUp (mUp ρ 6 ((2 * a1) + v2).toNatClampNeg ((ρ 6 ((2 * a1) + v2).toNatClampNeg) - (mMin (2 * (ρ 7 ((2 * a1) + v2).toNatClampNeg)) ((ρ 6 ((2 * a1) + v2).toNatClampNeg) - 1)))) 6 (((2 * a1) + 1) - v2).toNatClampNeg (((mUp ρ 6 ((2 * a1) + v2).toNatClampNeg ((ρ 6 ((2 * a1) + v2).toNatClampNeg) - (mMin (2 * (ρ 7 ((2 * a1) + v2).toNatClampNeg)) ((ρ 6 ((2 * a1) + v2).toNatClampNeg) - 1)))) 6 (((2 * a1) + 1) - v2).toNatClampNeg) + (mMin (2 * (ρ 7 ((2 * a1) + v2).toNatClampNeg)) ((ρ 6 ((2 * a1) + v2).toNatClampNeg) - 1)))) 7 ((2 * a1) + v2).toNatClampNeg 0) 4 ((mUp (mUp (mUp ρ 6 ((2 * a1) + v2).toNatClampNeg ((ρ 6 ((2 * a1) + v2).toNatClampNeg) - (mMin (2 * (ρ 7 ((2 * a1) + v2).toNatClampNeg)) ((ρ 6 ((2 * a1) + v2).toNatClampNeg) - 1)))) 6 (((2 * a1) + 1) - v2).toNatClampNeg (((mUp ρ 6 ((2 * a1) + v2).toNatClampNeg ((ρ 6 ((2 * a1) + v2).toNatClampNeg) - (mMin (2 * (ρ 7 ((2 * a1) + v2).toNatClampNeg)) ((ρ 6 ((2 * a1) + v2).toNatClampNeg) - 1)))) 6 (((2 * a1) + 1) - v2).toNatClampNeg) + (mMin (2 * (ρ 7 ((2 * a1) + v2).toNatClampNeg)) ((ρ 6 ((2 * a1) + v2).toNatClampNeg) - 1)))) 7 ((2 * a1) + v2).toNatClampNeg 0) 5 ((2 * a1) + v2).toNatClampNeg).toNatClampNeg) + 1)) (v2 + 1) else none else none else f_X6_look_2 N a1 n (mUp ρ 7 ((2 * a1) + v2).toNatClampNeg ((ρ 7 ((2 * a1) + v2).toNatClampNeg) / 2)) (v2 + 1) else none
set_option maxHeartbeats 4000000 in
set_option maxRecDepth 100000 in
theorem w_X6_look_2 {l : Launch} {D : va_G} {y : Nat → ClassId} {ad : Nat → Nat} {N : Nat} {p : Program} {e : Env} {s : State} {m : MethodId} {args : Array Value} {below : List Frame} {meth : Method} {c : Code} (hB : mBd p s m args meth c cX6_look 5 wsX6_look RX6 none) {a1 : Int32} {q : Unit × mSt}   : ∀ (n : Nat) (ρ : mSt) (v2 : Int32), f_X6_look_2 N a1  n ρ v2 = some q → ∀ (H : Heap) (locs : List Loc) (ls : Array Slot), mV D y (mFree 21 ad s.heap.size) s s.heap H locs 21 ad (mR y ad ρ) → lv_has ls 5 [(0, .ref (ad 0)), (1, .int a1), (2, .int v2)] → W p l e { frames := 1, cells := 0, slots := 0, locals := 13 } s m args below meth c H locs 0 0 (MQ below (mQ none D 21 ad (mR y ad q.2) s.heap.size) args s 0 0 (mFree 21 ad s.heap.size)) (F0 m 2 ls []) := by
  obtain ⟨hx, hb, hml, hown, hts, hr, hlk⟩ := id hB
  intro n
  induction n with
  | zero =>
    intro ρ v2 h
    exact nomatch h
  | succ n ih =>
    intro ρ v2 h H locs ls V hl
    rw [f_X6_look_2] at h
    refine lv_iload_n hx hb dX6_look_2 rfl (lv_at hl 2 rfl) ?_
    refine lv_iconst (v := 2) hx hb dX6_look_3 (by decide) ?_
    refine lv_icmp_ge (tgt := 114) hx hb dX6_look_4 (by decide) (fun hc11 => ?_) (fun hc11 => ?_)
    · replace h := ite_t hc11 h
      obtain rfl := Option.some.inj h
      exact m_vret hx hb hr hlk V (Nat.zero_le _) (Nat.zero_le _) dX6_look_114
    · replace h := ite_f hc11 h
      refine lv_iconst (v := 2) hx hb dX6_look_7 (by decide) ?_
      refine lv_iload_n hx hb dX6_look_8 rfl (lv_at hl 1 rfl) ?_
      refine lv_imul hx hb dX6_look_9 ?_
      refine lv_iload_n hx hb dX6_look_10 rfl (lv_at hl 2 rfl) ?_
      refine lv_iadd hx hb dX6_look_11 ?_
      refine lv_istore_n (lv' := [(3, .int ((2 * a1) + v2)), (0, .ref (ad 0)), (1, .int a1), (2, .int v2)]) hx hb dX6_look_12 rfl hl (by decide) rfl (fun ls hl => ?_)
      refine lv_aload_n hx hb dX6_look_13 rfl (lv_at hl 1 rfl) ?_
      refine gR_T hx hb hts hown (fun _ h => List.mem_cons_of_mem _ (List.mem_append_right _ h)) V 10 (by decide) (hts _ (List.mem_of_getElem? (i := 1) rfl)) (v := .ref (ad 8)) rfl dX6_look_14 ?_
      refine lv_iload_n hx hb dX6_look_17 rfl (lv_at hl 0 rfl) ?_
      obtain ⟨hi12, h⟩ := gd_s h
      refine aR_I hx hb V 7 8 32 (by decide) rfl rfl hi12 dX6_look_18 ?_
      refine lv_bipush (v := 15) hx hb dX6_look_19 (by decide) ?_
      refine lv_icmp_ge (tgt := 37) hx hb dX6_look_21 (by decide) (fun hc13 => ?_) (fun hc13 => ?_)
      · replace h := ite_t hc13 h
        refine lv_iconst (v := 2) hx hb dX6_look_37 (by decide) ?_
        refine lv_aload_n hx hb dX6_look_38 rfl (lv_at hl 1 rfl) ?_
        refine gR_T hx hb hts hown (fun _ h => List.mem_cons_of_mem _ (List.mem_append_right _ h)) V 10 (by decide) (hts _ (List.mem_of_getElem? (i := 1) rfl)) (v := .ref (ad 8)) rfl dX6_look_39 ?_
        refine lv_iload_n hx hb dX6_look_42 rfl (lv_at hl 0 rfl) ?_
        refine aR_I hx hb V 7 8 32 (by decide) rfl rfl hi12 dX6_look_43 ?_
        refine lv_imul hx hb dX6_look_44 ?_
        refine lv_aload_n hx hb dX6_look_45 rfl (lv_at hl 1 rfl) ?_
        refine gR_T hx hb hts hown (fun _ h => List.mem_cons_of_mem _ (List.mem_append_right _ h)) V 9 (by decide) (hts _ (List.mem_of_getElem? (i := 2) rfl)) (v := .ref (ad 7)) rfl dX6_look_46 ?_
        refine lv_iload_n hx hb dX6_look_49 rfl (lv_at hl 0 rfl) ?_
        refine aR_I hx hb V 6 7 32 (by decide) rfl rfl hi12 dX6_look_50 ?_
        refine lv_iconst (v := 1) hx hb dX6_look_51 (by decide) ?_
        refine lv_isub hx hb dX6_look_52 ?_
        refine m_min hx hb hml hl.1 hown (hts _ (List.mem_of_getElem? (i := 3) rfl)) (hts _ (List.mem_of_getElem? (i := 4) rfl)) (hts _ (List.mem_of_getElem? (i := 5) rfl)) (hts _ (List.mem_of_getElem? (i := 6) rfl)) (Nat.le_of_ble_eq_true rfl) (Nat.le_of_ble_eq_true rfl) (Nat.zero_le _) (Nat.zero_le _) dX6_look_53 ?_
        refine lv_istore (lv' := [(4, .int (mMin (2 * (ρ 7 ((2 * a1) + v2).toNatClampNeg)) ((ρ 6 ((2 * a1) + v2).toNatClampNeg) - 1))), (3, .int ((2 * a1) + v2)), (0, .ref (ad 0)), (1, .int a1), (2, .int v2)]) hx hb dX6_look_56 hl (by decide) rfl (fun ls hl => ?_)
        refine lv_aload_n hx hb dX6_look_58 rfl (lv_at hl 2 rfl) ?_
        refine gR_T hx hb hts hown (fun _ h => List.mem_cons_of_mem _ (List.mem_append_right _ h)) V 9 (by decide) (hts _ (List.mem_of_getElem? (i := 2) rfl)) (v := .ref (ad 7)) rfl dX6_look_59 ?_
        refine lv_iload_n hx hb dX6_look_62 rfl (lv_at hl 1 rfl) ?_
        refine lv_dup2_11 hx hb dX6_look_63 rfl rfl ?_
        refine aR_I hx hb V 6 7 32 (by decide) rfl rfl hi12 dX6_look_64 ?_
        refine lv_iload hx hb dX6_look_65 (lv_at hl 0 rfl) ?_
        refine lv_isub hx hb dX6_look_67 ?_
        refine bR_I hx hb V 6 7 32 (by decide) rfl rfl hi12 dX6_look_68 (fun H locs V => ?_)
        refine lv_aload_n hx hb dX6_look_69 rfl (lv_at hl 2 rfl) ?_
        refine gR_T hx hb hts hown (fun _ h => List.mem_cons_of_mem _ (List.mem_append_right _ h)) V 9 (by decide) (hts _ (List.mem_of_getElem? (i := 2) rfl)) (v := .ref (ad 7)) rfl dX6_look_70 ?_
        refine lv_iconst (v := 2) hx hb dX6_look_73 (by decide) ?_
        refine lv_iload_n hx hb dX6_look_74 rfl (lv_at hl 3 rfl) ?_
        refine lv_imul hx hb dX6_look_75 ?_
        refine lv_iconst (v := 1) hx hb dX6_look_76 (by decide) ?_
        refine lv_iadd hx hb dX6_look_77 ?_
        refine lv_iload_n hx hb dX6_look_78 rfl (lv_at hl 4 rfl) ?_
        refine lv_isub hx hb dX6_look_79 ?_
        refine lv_dup2_11 hx hb dX6_look_80 rfl rfl ?_
        obtain ⟨hi17, h⟩ := gd_s h
        refine aR_I hx hb V 6 7 32 (by decide) rfl rfl hi17 dX6_look_81 ?_
        refine lv_iload hx hb dX6_look_82 (lv_at hl 0 rfl) ?_
        refine lv_iadd hx hb dX6_look_84 ?_
        refine bR_I hx hb V 6 7 32 (by decide) rfl rfl hi17 dX6_look_85 (fun H locs V => ?_)
        refine lv_aload_n hx hb dX6_look_86 rfl (lv_at hl 2 rfl) ?_
        refine gR_T hx hb hts hown (fun _ h => List.mem_cons_of_mem _ (List.mem_append_right _ h)) V 10 (by decide) (hts _ (List.mem_of_getElem? (i := 1) rfl)) (v := .ref (ad 8)) rfl dX6_look_87 ?_
        refine lv_iload_n hx hb dX6_look_90 rfl (lv_at hl 1 rfl) ?_
        refine lv_iconst (v := 0) hx hb dX6_look_91 (by decide) ?_
        refine bR_I hx hb V 7 8 32 (by decide) rfl rfl hi12 dX6_look_92 (fun H locs V => ?_)
        refine lv_aload_n hx hb dX6_look_93 rfl (lv_at hl 2 rfl) ?_
        refine gR_T hx hb hts hown (fun _ h => List.mem_cons_of_mem _ (List.mem_append_right _ h)) V 6 (by decide) (hts _ (List.mem_of_getElem? (i := 7) rfl)) (v := .ref (ad 5)) rfl dX6_look_94 ?_
        refine lv_aload_n hx hb dX6_look_97 rfl (lv_at hl 2 rfl) ?_
        refine gR_T hx hb hts hown (fun _ h => List.mem_cons_of_mem _ (List.mem_append_right _ h)) V 8 (by decide) (hts _ (List.mem_of_getElem? (i := 8) rfl)) (v := .ref (ad 6)) rfl dX6_look_98 ?_
        refine lv_iload_n hx hb dX6_look_101 rfl (lv_at hl 1 rfl) ?_
        refine aR_I hx hb V 5 6 32 (by decide) rfl rfl hi12 dX6_look_102 ?_
        refine lv_dup2_11 hx hb dX6_look_103 rfl rfl ?_
        obtain ⟨hi19, h⟩ := gd_s h
        refine aR_I hx hb V 4 5 8 (by decide) rfl rfl hi19 dX6_look_104 ?_
        refine lv_iconst (v := 1) hx hb dX6_look_105 (by decide) ?_
        refine lv_iadd hx hb dX6_look_106 ?_
        refine bR_I hx hb V 4 5 8 (by decide) rfl rfl hi19 dX6_look_107 (fun H locs V => ?_)
        refine lv_iinc (v := v2 + 1) (lv' := [(2, .int (v2 + 1)), (4, .int (mMin (2 * (ρ 7 ((2 * a1) + v2).toNatClampNeg)) ((ρ 6 ((2 * a1) + v2).toNatClampNeg) - 1))), (3, .int ((2 * a1) + v2)), (0, .ref (ad 0)), (1, .int a1)]) hx hb dX6_look_108 hl (k := 4) rfl rfl (by decide) rfl (fun ls hl => ?_)
        refine lv_goto (tgt := 2) hx hb dX6_look_111 (by decide) ?_
        exact ih _ _ h _ _ _ V (lv_sub hl [3, 4, 0] rfl)
      · replace h := ite_f hc13 h
        refine lv_aload_n hx hb dX6_look_24 rfl (lv_at hl 1 rfl) ?_
        refine gR_T hx hb hts hown (fun _ h => List.mem_cons_of_mem _ (List.mem_append_right _ h)) V 10 (by decide) (hts _ (List.mem_of_getElem? (i := 1) rfl)) (v := .ref (ad 8)) rfl dX6_look_25 ?_
        refine lv_iload_n hx hb dX6_look_28 rfl (lv_at hl 0 rfl) ?_
        refine lv_dup2_11 hx hb dX6_look_29 rfl rfl ?_
        refine aR_I hx hb V 7 8 32 (by decide) rfl rfl hi12 dX6_look_30 ?_
        refine lv_iconst (v := 2) hx hb dX6_look_31 (by decide) ?_
        refine lv_idiv hx hb dX6_look_32 (by decide) ?_
        refine bR_I hx hb V 7 8 32 (by decide) rfl rfl hi12 dX6_look_33 (fun H locs V => ?_)
        refine lv_goto (tgt := 108) hx hb dX6_look_34 (by decide) ?_
        refine lv_iinc (v := v2 + 1) (lv' := [(2, .int (v2 + 1)), (3, .int ((2 * a1) + v2)), (0, .ref (ad 0)), (1, .int a1)]) hx hb dX6_look_108 hl (k := 3) rfl rfl (by decide) rfl (fun ls hl => ?_)
        refine lv_goto (tgt := 2) hx hb dX6_look_111 (by decide) ?_
        exact ih _ _ h _ _ _ V (lv_sub hl [2, 3, 0] rfl)
def f_X6_look (N : Nat) (ρ : mSt) (a1 : Int32) : Option (Unit × mSt) := f_X6_look_2 N a1 N ρ 0
set_option maxHeartbeats 4000000 in
set_option maxRecDepth 100000 in
theorem c_X6_look {l : Launch} {D : va_G} {y : Nat → ClassId} {ad : Nat → Nat} {N : Nat} {ρ : mSt} {a1 : Int32} {q : Unit × mSt} (h : f_X6_look N ρ a1 = some q) : mC l yX6_look wsX6_look { frames := 1, cells := 0, slots := 0, locals := 13 } D y 21 ad mX0 (mR y ad ρ) [.ref (ad 0), .int a1] none (mR y ad q.2) 0 0 := by
  refine m_start (cc := cX6_look) (maxL := 5) (ret := none) (by decide) rfl (Nat.le_of_ble_eq_true rfl) (fun p e s m args below meth c ls hB _ V _ hl => ?_)
  obtain ⟨hx, hb, hml, hown, hts, hr, hlk⟩ := id hB
  have hl : lv_has ls 5 [(0, .ref (ad 0)), (1, .int a1)] := hl
  rw [f_X6_look] at h
  refine lv_iconst (v := 0) hx hb dX6_look_0 (by decide) ?_
  refine lv_istore_n (lv' := [(2, .int 0), (0, .ref (ad 0)), (1, .int a1)]) hx hb dX6_look_1 rfl hl (by decide) rfl (fun ls hl => ?_)
  exact w_X6_look_2 hB _ _ _ h _ _ _ V (lv_sub hl [1, 2, 0] rfl)
-- X6_pass
def f_X6_pass_241 (N : Nat)   : Nat → mSt → Int32 → Int32 → Option (Int32 × mSt)
  | 0, _, _, _ => none
  | n + 1, ρ, v1, v2 => if (ρ 22 0) ≤ v2 then some (v1, ρ) else if ((ρ 20 0) - (ρ 20 0) / 30 * 30) = 0 then (f_X6_runs N ρ v2).bind fun q35 => if q35.1 = 0 then f_X6_pass_241 N n q35.2 v1 (v2 + 1) else (f_X6_look N q35.2 v2).bind fun q37 => f_X6_pass_241 N n q37.2 v1 (v2 + 1) else some (v1, ρ)
set_option maxHeartbeats 4000000 in
set_option maxRecDepth 100000 in
theorem w_X6_pass_241 {l : Launch} {D : va_G} {y : Nat → ClassId} {ad : Nat → Nat} {N : Nat} {p : Program} {e : Env} {s : State} {m : MethodId} {args : Array Value} {below : List Frame} {meth : Method} {c : Code} (hB : mBd p s m args meth c cX6_pass 3 wsX6_pass RX6 (some .int))  {q : Int32 × mSt}   : ∀ (n : Nat) (ρ : mSt) (v1 : Int32) (v2 : Int32), f_X6_pass_241 N   n ρ v1 v2 = some q → ∀ (H : Heap) (locs : List Loc) (ls : Array Slot), mV D y (mFree 21 ad s.heap.size) s s.heap H locs 21 ad (mR y ad ρ) → lv_has ls 3 [(0, .ref (ad 0)), (1, .int v1), (2, .int v2)] → W p l e { frames := 2, cells := 0, slots := 0, locals := 46 } s m args below meth c H locs 0 0 (MQ below (mQ (some (.int q.1)) D 21 ad (mR y ad q.2) s.heap.size) args s 0 0 (mFree 21 ad s.heap.size)) (F0 m 241 ls []) := by
  obtain ⟨hx, hb, hml, hown, hts, hr, hlk⟩ := id hB
  intro n
  induction n with
  | zero =>
    intro ρ v1 v2 h
    exact nomatch h
  | succ n ih =>
    intro ρ v1 v2 h H locs ls V hl
    rw [f_X6_pass_241] at h
    refine lv_iload_n hx hb dX6_pass_241 rfl (lv_at hl 2 rfl) ?_
    refine lv_aload_n hx hb dX6_pass_242 rfl (lv_at hl 0 rfl) ?_
    refine gR_T hx hb hts hown (fun _ h => List.mem_cons_of_mem _ (List.mem_append_right _ h)) V 7 (by decide) (hts _ (List.mem_of_getElem? (i := 2) rfl)) (v := .int (ρ 22 0)) rfl dX6_pass_243 ?_
    refine lv_icmp_ge (tgt := 278) hx hb dX6_pass_246 (by decide) (fun hc33 => ?_) (fun hc33 => ?_)
    · replace h := ite_t hc33 h
      refine lv_iload_n hx hb dX6_pass_278 rfl (lv_at hl 1 rfl) ?_
      obtain rfl := Option.some.inj h
      exact m_iret hx hb hr hlk V (Nat.zero_le _) (Nat.zero_le _) dX6_pass_279
    · replace h := ite_f hc33 h
      refine lv_aload_n hx hb dX6_pass_249 rfl (lv_at hl 0 rfl) ?_
      refine gR_T hx hb hts hown (fun _ h => List.mem_cons_of_mem _ (List.mem_append_right _ h)) V 0 (by decide) (hts _ (List.mem_of_getElem? (i := 1) rfl)) (v := .int (ρ 20 0)) rfl dX6_pass_250 ?_
      refine lv_bipush (v := 30) hx hb dX6_pass_253 (by decide) ?_
      refine lv_irem hx hb dX6_pass_255 (by decide) ?_
      refine lv_if_ne (tgt := 278) hx hb dX6_pass_256 (by decide) (fun hc34 => ?_) (fun hc34 => ?_)
      · replace h := ite_f hc34 h
        refine lv_iload_n hx hb dX6_pass_278 rfl (lv_at hl 1 rfl) ?_
        obtain rfl := Option.some.inj h
        exact m_iret hx hb hr hlk V (Nat.zero_le _) (Nat.zero_le _) dX6_pass_279
      · replace h := ite_t hc34 h
        refine lv_aload_n hx hb dX6_pass_259 rfl (lv_at hl 0 rfl) ?_
        refine lv_iload_n hx hb dX6_pass_260 rfl (lv_at hl 2 rfl) ?_
        obtain ⟨q35, hq35, h⟩ := bd_s h
        refine kRR (As := [.int v2]) (rest := []) ⟨hx, hb, hml, hown, hts⟩ V (c_X6_runs (l := l) (D := D) (y := y) (ad := ad) hq35) (cwV 1 hts gX6_pass_X6_runs rfl rfl rfl (by decide +kernel) ⟨Nat.le_of_ble_eq_true rfl, Nat.le_of_ble_eq_true rfl⟩) (by omega) (mR_T y ad _) rfl rfl hl.1 rfl (Nat.le_of_ble_eq_true rfl) ⟨Nat.zero_le _, Nat.zero_le _⟩ rfl dX6_pass_261 (fun H locs V => ?_)
        refine lv_if_eq (tgt := 272) hx hb dX6_pass_264 (by decide) (fun hc36 => ?_) (fun hc36 => ?_)
        · replace h := ite_t hc36 h
          refine lv_iinc (v := v2 + 1) (lv' := [(2, .int (v2 + 1)), (0, .ref (ad 0)), (1, .int v1)]) hx hb dX6_pass_272 hl (k := 2) rfl rfl (by decide) rfl (fun ls hl => ?_)
          refine lv_goto (tgt := 241) hx hb dX6_pass_275 (by decide) ?_
          exact ih _ _ _ h _ _ _ V (lv_sub hl [1, 2, 0] rfl)
        · replace h := ite_f hc36 h
          refine lv_aload_n hx hb dX6_pass_267 rfl (lv_at hl 0 rfl) ?_
          refine lv_iload_n hx hb dX6_pass_268 rfl (lv_at hl 2 rfl) ?_
          obtain ⟨q37, hq37, h⟩ := bd_s h
          refine kRR (As := [.int v2]) (rest := []) ⟨hx, hb, hml, hown, hts⟩ V (c_X6_look (l := l) (D := D) (y := y) (ad := ad) hq37) (cwV 1 hts gX6_pass_X6_look rfl rfl rfl (by decide +kernel) ⟨Nat.le_of_ble_eq_true rfl, Nat.le_of_ble_eq_true rfl⟩) (by omega) (mR_T y ad _) rfl rfl hl.1 rfl (Nat.le_of_ble_eq_true rfl) ⟨Nat.zero_le _, Nat.zero_le _⟩ rfl dX6_pass_269 (fun H locs V => ?_)
          refine lv_iinc (v := v2 + 1) (lv' := [(2, .int (v2 + 1)), (0, .ref (ad 0)), (1, .int v1)]) hx hb dX6_pass_272 hl (k := 2) rfl rfl (by decide) rfl (fun ls hl => ?_)
          refine lv_goto (tgt := 241) hx hb dX6_pass_275 (by decide) ?_
          exact ih _ _ _ h _ _ _ V (lv_sub hl [1, 2, 0] rfl)
def f_X6_pass_198 (N : Nat)   : Nat → mSt → Int32 → Int32 → Option (Int32 × mSt)
  | 0, _, _, _ => none
  | n + 1, ρ, v1, v2 => if (ρ 23 0) ≤ v2 then f_X6_pass_241 N N ρ v1 0 else if mIn v2 20 then if (ρ 19 v2.toNatClampNeg) = 0 then if (ρ 18 v2.toNatClampNeg) = (ρ 20 0) then (f_X6_collect N ρ v2).bind fun q43 => f_X6_pass_198 N n q43.2 v1 (v2 + 1) else f_X6_pass_198 N n ρ v1 (v2 + 1) else f_X6_pass_198 N n ρ v1 (v2 + 1) else none
set_option maxHeartbeats 4000000 in
set_option maxRecDepth 100000 in
theorem w_X6_pass_198 {l : Launch} {D : va_G} {y : Nat → ClassId} {ad : Nat → Nat} {N : Nat} {p : Program} {e : Env} {s : State} {m : MethodId} {args : Array Value} {below : List Frame} {meth : Method} {c : Code} (hB : mBd p s m args meth c cX6_pass 3 wsX6_pass RX6 (some .int))  {q : Int32 × mSt}   : ∀ (n : Nat) (ρ : mSt) (v1 : Int32) (v2 : Int32), f_X6_pass_198 N   n ρ v1 v2 = some q → ∀ (H : Heap) (locs : List Loc) (ls : Array Slot), mV D y (mFree 21 ad s.heap.size) s s.heap H locs 21 ad (mR y ad ρ) → lv_has ls 3 [(0, .ref (ad 0)), (1, .int v1), (2, .int v2)] → W p l e { frames := 2, cells := 0, slots := 0, locals := 46 } s m args below meth c H locs 0 0 (MQ below (mQ (some (.int q.1)) D 21 ad (mR y ad q.2) s.heap.size) args s 0 0 (mFree 21 ad s.heap.size)) (F0 m 198 ls []) := by
  obtain ⟨hx, hb, hml, hown, hts, hr, hlk⟩ := id hB
  intro n
  induction n with
  | zero =>
    intro ρ v1 v2 h
    exact nomatch h
  | succ n ih =>
    intro ρ v1 v2 h H locs ls V hl
    rw [f_X6_pass_198] at h
    refine lv_iload_n hx hb dX6_pass_198 rfl (lv_at hl 2 rfl) ?_
    refine lv_aload_n hx hb dX6_pass_199 rfl (lv_at hl 0 rfl) ?_
    refine gR_T hx hb hts hown (fun _ h => List.mem_cons_of_mem _ (List.mem_append_right _ h)) V 18 (by decide) (hts _ (List.mem_of_getElem? (i := 7) rfl)) (v := .int (ρ 23 0)) rfl dX6_pass_200 ?_
    refine lv_icmp_ge (tgt := 239) hx hb dX6_pass_203 (by decide) (fun hc38 => ?_) (fun hc38 => ?_)
    · replace h := ite_t hc38 h
      refine lv_iconst (v := 0) hx hb dX6_pass_239 (by decide) ?_
      refine lv_istore_n (lv' := [(2, .int 0), (0, .ref (ad 0)), (1, .int v1)]) hx hb dX6_pass_240 rfl hl (by decide) rfl (fun ls hl => ?_)
      exact w_X6_pass_241 hB _ _ _ _ h _ _ _ V (lv_sub hl [1, 2, 0] rfl)
    · replace h := ite_f hc38 h
      refine lv_aload_n hx hb dX6_pass_206 rfl (lv_at hl 0 rfl) ?_
      refine gR_T hx hb hts hown (fun _ h => List.mem_cons_of_mem _ (List.mem_append_right _ h)) V 23 (by decide) (hts _ (List.mem_of_getElem? (i := 8) rfl)) (v := .ref (ad 20)) rfl dX6_pass_207 ?_
      refine lv_iload_n hx hb dX6_pass_210 rfl (lv_at hl 2 rfl) ?_
      obtain ⟨hi39, h⟩ := gd_s h
      refine aR_I hx hb V 19 20 20 (by decide) rfl rfl hi39 dX6_pass_211 ?_
      refine lv_if_ne (tgt := 233) hx hb dX6_pass_212 (by decide) (fun hc40 => ?_) (fun hc40 => ?_)
      · replace h := ite_f hc40 h
        refine lv_iinc (v := v2 + 1) (lv' := [(2, .int (v2 + 1)), (0, .ref (ad 0)), (1, .int v1)]) hx hb dX6_pass_233 hl (k := 2) rfl rfl (by decide) rfl (fun ls hl => ?_)
        refine lv_goto (tgt := 198) hx hb dX6_pass_236 (by decide) ?_
        exact ih _ _ _ h _ _ _ V (lv_sub hl [1, 2, 0] rfl)
      · replace h := ite_t hc40 h
        refine lv_aload_n hx hb dX6_pass_215 rfl (lv_at hl 0 rfl) ?_
        refine gR_T hx hb hts hown (fun _ h => List.mem_cons_of_mem _ (List.mem_append_right _ h)) V 22 (by decide) (hts _ (List.mem_of_getElem? (i := 16) rfl)) (v := .ref (ad 19)) rfl dX6_pass_216 ?_
        refine lv_iload_n hx hb dX6_pass_219 rfl (lv_at hl 2 rfl) ?_
        refine aR_I hx hb V 18 19 20 (by decide) rfl rfl hi39 dX6_pass_220 ?_
        refine lv_aload_n hx hb dX6_pass_221 rfl (lv_at hl 0 rfl) ?_
        refine gR_T hx hb hts hown (fun _ h => List.mem_cons_of_mem _ (List.mem_append_right _ h)) V 0 (by decide) (hts _ (List.mem_of_getElem? (i := 1) rfl)) (v := .int (ρ 20 0)) rfl dX6_pass_222 ?_
        refine lv_icmp_ne (tgt := 233) hx hb dX6_pass_225 (by decide) (fun hc42 => ?_) (fun hc42 => ?_)
        · replace h := ite_f hc42 h
          refine lv_iinc (v := v2 + 1) (lv' := [(2, .int (v2 + 1)), (0, .ref (ad 0)), (1, .int v1)]) hx hb dX6_pass_233 hl (k := 2) rfl rfl (by decide) rfl (fun ls hl => ?_)
          refine lv_goto (tgt := 198) hx hb dX6_pass_236 (by decide) ?_
          exact ih _ _ _ h _ _ _ V (lv_sub hl [1, 2, 0] rfl)
        · replace h := ite_t hc42 h
          refine lv_aload_n hx hb dX6_pass_228 rfl (lv_at hl 0 rfl) ?_
          refine lv_iload_n hx hb dX6_pass_229 rfl (lv_at hl 2 rfl) ?_
          obtain ⟨q43, hq43, h⟩ := bd_s h
          refine kRR (As := [.int v2]) (rest := []) ⟨hx, hb, hml, hown, hts⟩ V (c_X6_collect (l := l) (D := D) (y := y) (ad := ad) hq43) (cwV 1 hts gX6_pass_X6_collect rfl rfl rfl (by decide +kernel) ⟨Nat.le_of_ble_eq_true rfl, Nat.le_of_ble_eq_true rfl⟩) (by omega) (mR_T y ad _) rfl rfl hl.1 rfl (Nat.le_of_ble_eq_true rfl) ⟨Nat.zero_le _, Nat.zero_le _⟩ rfl dX6_pass_230 (fun H locs V => ?_)
          refine lv_iinc (v := v2 + 1) (lv' := [(2, .int (v2 + 1)), (0, .ref (ad 0)), (1, .int v1)]) hx hb dX6_pass_233 hl (k := 2) rfl rfl (by decide) rfl (fun ls hl => ?_)
          refine lv_goto (tgt := 198) hx hb dX6_pass_236 (by decide) ?_
          exact ih _ _ _ h _ _ _ V (lv_sub hl [1, 2, 0] rfl)
def f_X6_pass_126 (N : Nat)   : Nat → mSt → Int32 → Int32 → Option (Int32 × mSt)
  | 0, _, _, _ => none
  | n + 1, ρ, v1, v2 => if (ρ 23 0) ≤ v2 then f_X6_pass_198 N N ρ v1 0 else if ((ρ 20 0) - (ρ 20 0) / 60 * 60) = 0 then if mIn v2 20 then if (ρ 19 v2.toNatClampNeg) = 0 then f_X6_pass_126 N n (mUp ρ 16 v2.toNatClampNeg (mMin 1000000 (((ρ 16 v2.toNatClampNeg) + (((ρ 16 v2.toNatClampNeg) * (ρ 17 v2.toNatClampNeg)) / 1000)) + 1))) v1 (v2 + 1) else f_X6_pass_126 N n ρ v1 (v2 + 1) else none else f_X6_pass_198 N N ρ v1 0
set_option maxHeartbeats 4000000 in
set_option maxRecDepth 100000 in
theorem w_X6_pass_126 {l : Launch} {D : va_G} {y : Nat → ClassId} {ad : Nat → Nat} {N : Nat} {p : Program} {e : Env} {s : State} {m : MethodId} {args : Array Value} {below : List Frame} {meth : Method} {c : Code} (hB : mBd p s m args meth c cX6_pass 3 wsX6_pass RX6 (some .int))  {q : Int32 × mSt}   : ∀ (n : Nat) (ρ : mSt) (v1 : Int32) (v2 : Int32), f_X6_pass_126 N   n ρ v1 v2 = some q → ∀ (H : Heap) (locs : List Loc) (ls : Array Slot), mV D y (mFree 21 ad s.heap.size) s s.heap H locs 21 ad (mR y ad ρ) → lv_has ls 3 [(0, .ref (ad 0)), (1, .int v1), (2, .int v2)] → W p l e { frames := 2, cells := 0, slots := 0, locals := 46 } s m args below meth c H locs 0 0 (MQ below (mQ (some (.int q.1)) D 21 ad (mR y ad q.2) s.heap.size) args s 0 0 (mFree 21 ad s.heap.size)) (F0 m 126 ls []) := by
  obtain ⟨hx, hb, hml, hown, hts, hr, hlk⟩ := id hB
  intro n
  induction n with
  | zero =>
    intro ρ v1 v2 h
    exact nomatch h
  | succ n ih =>
    intro ρ v1 v2 h H locs ls V hl
    rw [f_X6_pass_126] at h
    refine lv_iload_n hx hb dX6_pass_126 rfl (lv_at hl 2 rfl) ?_
    refine lv_aload_n hx hb dX6_pass_127 rfl (lv_at hl 0 rfl) ?_
    refine gR_T hx hb hts hown (fun _ h => List.mem_cons_of_mem _ (List.mem_append_right _ h)) V 18 (by decide) (hts _ (List.mem_of_getElem? (i := 7) rfl)) (v := .int (ρ 23 0)) rfl dX6_pass_128 ?_
    refine lv_icmp_ge (tgt := 196) hx hb dX6_pass_131 (by decide) (fun hc44 => ?_) (fun hc44 => ?_)
    · replace h := ite_t hc44 h
      refine lv_iconst (v := 0) hx hb dX6_pass_196 (by decide) ?_
      refine lv_istore_n (lv' := [(2, .int 0), (0, .ref (ad 0)), (1, .int v1)]) hx hb dX6_pass_197 rfl hl (by decide) rfl (fun ls hl => ?_)
      exact w_X6_pass_198 hB _ _ _ _ h _ _ _ V (lv_sub hl [1, 2, 0] rfl)
    · replace h := ite_f hc44 h
      refine lv_aload_n hx hb dX6_pass_134 rfl (lv_at hl 0 rfl) ?_
      refine gR_T hx hb hts hown (fun _ h => List.mem_cons_of_mem _ (List.mem_append_right _ h)) V 0 (by decide) (hts _ (List.mem_of_getElem? (i := 1) rfl)) (v := .int (ρ 20 0)) rfl dX6_pass_135 ?_
      refine lv_bipush (v := 60) hx hb dX6_pass_138 (by decide) ?_
      refine lv_irem hx hb dX6_pass_140 (by decide) ?_
      refine lv_if_ne (tgt := 196) hx hb dX6_pass_141 (by decide) (fun hc45 => ?_) (fun hc45 => ?_)
      · replace h := ite_f hc45 h
        refine lv_iconst (v := 0) hx hb dX6_pass_196 (by decide) ?_
        refine lv_istore_n (lv' := [(2, .int 0), (0, .ref (ad 0)), (1, .int v1)]) hx hb dX6_pass_197 rfl hl (by decide) rfl (fun ls hl => ?_)
        exact w_X6_pass_198 hB _ _ _ _ h _ _ _ V (lv_sub hl [1, 2, 0] rfl)
      · replace h := ite_t hc45 h
        refine lv_aload_n hx hb dX6_pass_144 rfl (lv_at hl 0 rfl) ?_
        refine gR_T hx hb hts hown (fun _ h => List.mem_cons_of_mem _ (List.mem_append_right _ h)) V 23 (by decide) (hts _ (List.mem_of_getElem? (i := 8) rfl)) (v := .ref (ad 20)) rfl dX6_pass_145 ?_
        refine lv_iload_n hx hb dX6_pass_148 rfl (lv_at hl 2 rfl) ?_
        obtain ⟨hi46, h⟩ := gd_s h
        refine aR_I hx hb V 19 20 20 (by decide) rfl rfl hi46 dX6_pass_149 ?_
        refine lv_if_ne (tgt := 190) hx hb dX6_pass_150 (by decide) (fun hc47 => ?_) (fun hc47 => ?_)
        · replace h := ite_f hc47 h
          refine lv_iinc (v := v2 + 1) (lv' := [(2, .int (v2 + 1)), (0, .ref (ad 0)), (1, .int v1)]) hx hb dX6_pass_190 hl (k := 2) rfl rfl (by decide) rfl (fun ls hl => ?_)
          refine lv_goto (tgt := 126) hx hb dX6_pass_193 (by decide) ?_
          exact ih _ _ _ h _ _ _ V (lv_sub hl [1, 2, 0] rfl)
        · replace h := ite_t hc47 h
          refine lv_aload_n hx hb dX6_pass_153 rfl (lv_at hl 0 rfl) ?_
          refine gR_T hx hb hts hown (fun _ h => List.mem_cons_of_mem _ (List.mem_append_right _ h)) V 20 (by decide) (hts _ (List.mem_of_getElem? (i := 9) rfl)) (v := .ref (ad 17)) rfl dX6_pass_154 ?_
          refine lv_iload_n hx hb dX6_pass_157 rfl (lv_at hl 2 rfl) ?_
          refine lv_ldc (v := 1000000) hx hb hown (hts _ (List.mem_of_getElem? (i := 10) rfl)) dX6_pass_158 ?_
          refine lv_aload_n hx hb dX6_pass_160 rfl (lv_at hl 0 rfl) ?_
          refine gR_T hx hb hts hown (fun _ h => List.mem_cons_of_mem _ (List.mem_append_right _ h)) V 20 (by decide) (hts _ (List.mem_of_getElem? (i := 9) rfl)) (v := .ref (ad 17)) rfl dX6_pass_161 ?_
          refine lv_iload_n hx hb dX6_pass_164 rfl (lv_at hl 2 rfl) ?_
          refine aR_I hx hb V 16 17 20 (by decide) rfl rfl hi46 dX6_pass_165 ?_
          refine lv_aload_n hx hb dX6_pass_166 rfl (lv_at hl 0 rfl) ?_
          refine gR_T hx hb hts hown (fun _ h => List.mem_cons_of_mem _ (List.mem_append_right _ h)) V 20 (by decide) (hts _ (List.mem_of_getElem? (i := 9) rfl)) (v := .ref (ad 17)) rfl dX6_pass_167 ?_
          refine lv_iload_n hx hb dX6_pass_170 rfl (lv_at hl 2 rfl) ?_
          refine aR_I hx hb V 16 17 20 (by decide) rfl rfl hi46 dX6_pass_171 ?_
          refine lv_aload_n hx hb dX6_pass_172 rfl (lv_at hl 0 rfl) ?_
          refine gR_T hx hb hts hown (fun _ h => List.mem_cons_of_mem _ (List.mem_append_right _ h)) V 21 (by decide) (hts _ (List.mem_of_getElem? (i := 11) rfl)) (v := .ref (ad 18)) rfl dX6_pass_173 ?_
          refine lv_iload_n hx hb dX6_pass_176 rfl (lv_at hl 2 rfl) ?_
          refine aR_I hx hb V 17 18 20 (by decide) rfl rfl hi46 dX6_pass_177 ?_
          refine lv_imul hx hb dX6_pass_178 ?_
          refine lv_sipush (v := 1000) hx hb dX6_pass_179 (by decide) ?_
          refine lv_idiv hx hb dX6_pass_182 (by decide) ?_
          refine lv_iadd hx hb dX6_pass_183 ?_
          refine lv_iconst (v := 1) hx hb dX6_pass_184 (by decide) ?_
          refine lv_iadd hx hb dX6_pass_185 ?_
          refine m_min hx hb hml hl.1 hown (hts _ (List.mem_of_getElem? (i := 12) rfl)) (hts _ (List.mem_of_getElem? (i := 13) rfl)) (hts _ (List.mem_of_getElem? (i := 14) rfl)) (hts _ (List.mem_of_getElem? (i := 15) rfl)) (Nat.le_of_ble_eq_true rfl) (Nat.le_of_ble_eq_true rfl) (Nat.zero_le _) (Nat.zero_le _) dX6_pass_186 ?_
          refine bR_I hx hb V 16 17 20 (by decide) rfl rfl hi46 dX6_pass_189 (fun H locs V => ?_)
          refine lv_iinc (v := v2 + 1) (lv' := [(2, .int (v2 + 1)), (0, .ref (ad 0)), (1, .int v1)]) hx hb dX6_pass_190 hl (k := 2) rfl rfl (by decide) rfl (fun ls hl => ?_)
          refine lv_goto (tgt := 126) hx hb dX6_pass_193 (by decide) ?_
          exact ih _ _ _ h _ _ _ V (lv_sub hl [1, 2, 0] rfl)
def f_X6_pass_14 (N : Nat)   : Nat → mSt → Int32 → Int32 → Option (Int32 × mSt)
  | 0, _, _, _ => none
  | n + 1, ρ, v1, v2 => if (ρ 22 0) ≤ v2 then f_X6_pass_126 N N ρ v1 0 else (f_X6_runs N ρ v2).bind fun q52 => if q52.1 = 0 then f_X6_pass_14 N n q52.2 v1 (v2 + 1) else if mIn v2 16 then if ((mUp q52.2 13 v2.toNatClampNeg ((q52.2 13 v2.toNatClampNeg) + 1)) 9 v2.toNatClampNeg) < ((mUp q52.2 13 v2.toNatClampNeg ((q52.2 13 v2.toNatClampNeg) + 1)) 13 v2.toNatClampNeg) then if mIn ((2 * v2) + ((mUp q52.2 13 v2.toNatClampNeg ((q52.2 13 v2.toNatClampNeg) + 1)) 11 v2.toNatClampNeg)) 32 then if mIn ((2 * v2) + ((mUp (mUp q52.2 13 v2.toNatClampNeg ((q52.2 13 v2.toNatClampNeg) + 1)) 6 ((2 * v2) + ((mUp q52.2 13 v2.toNatClampNeg ((q52.2 13 v2.toNatClampNeg) + 1)) 11 v2.toNatClampNeg)).toNatClampNeg (((mUp q52.2 13 v2.toNatClampNeg ((q52.2 13 v2.toNatClampNeg) + 1)) 6 ((2 * v2) + ((mUp q52.2 13 v2.toNatClampNeg ((q52.2 13 v2.toNatClampNeg) + 1)) 11 v2.toNatClampNeg)).toNatClampNeg) - 1)) 11 v2.toNatClampNeg)) 32 then if ((mUp (mUp q52.2 13 v2.toNatClampNeg ((q52.2 13 v2.toNatClampNeg) + 1)) 6 ((2 * v2) + ((mUp q52.2 13 v2.toNatClampNeg ((q52.2 13 v2.toNatClampNeg) + 1)) 11 v2.toNatClampNeg)).toNatClampNeg (((mUp q52.2 13 v2.toNatClampNeg ((q52.2 13 v2.toNatClampNeg) + 1)) 6 ((2 * v2) + ((mUp q52.2 13 v2.toNatClampNeg ((q52.2 13 v2.toNatClampNeg) + 1)) 11 v2.toNatClampNeg)).toNatClampNeg) - 1)) 6 ((2 * v2) + ((mUp (mUp q52.2 13 v2.toNatClampNeg ((q52.2 13 v2.toNatClampNeg) + 1)) 6 ((2 * v2) + ((mUp q52.2 13 v2.toNatClampNeg ((q52.2 13 v2.toNatClampNeg) + 1)) 11 v2.toNatClampNeg)).toNatClampNeg (((mUp q52.2 13 v2.toNatClampNeg ((q52.2 13 v2.toNatClampNeg) + 1)) 6 ((2 * v2) + ((mUp q52.2 13 v2.toNatClampNeg ((q52.2 13 v2.toNatClampNeg) + 1)) 11 v2.toNatClampNeg)).toNatClampNeg) - 1)) 11 v2.toNatClampNeg)).toNatClampNeg) ≤ 0 then (f_X6_win N (mUp (mUp q52.2 13 v2.toNatClampNeg ((q52.2 13 v2.toNatClampNeg) + 1)) 6 ((2 * v2) + ((mUp q52.2 13 v2.toNatClampNeg ((q52.2 13 v2.toNatClampNeg) + 1)) 11 v2.toNatClampNeg)).toNatClampNeg (((mUp q52.2 13 v2.toNatClampNeg ((q52.2 13 v2.toNatClampNeg) + 1)) 6 ((2 * v2) + ((mUp q52.2 13 v2.toNatClampNeg ((q52.2 13 v2.toNatClampNeg) + 1)) 11 v2.toNatClampNeg)).toNatClampNeg) - 1)) v2 (1 - ((mUp (mUp q52.2 13 v2.toNatClampNeg ((q52.2 13 v2.toNatClampNeg) + 1)) 6 ((2 * v2) + ((mUp q52.2 13 v2.toNatClampNeg ((q52.2 13 v2.toNatClampNeg) + 1)) 11 v2.toNatClampNeg)).toNatClampNeg (((mUp q52.2 13 v2.toNatClampNeg ((q52.2 13 v2.toNatClampNeg) + 1)) 6 ((2 * v2) + ((mUp q52.2 13 v2.toNatClampNeg ((q52.2 13 v2.toNatClampNeg) + 1)) 11 v2.toNatClampNeg)).toNatClampNeg) - 1)) 11 v2.toNatClampNeg))).bind fun q64 => f_X6_pass_14 N n q64.2 (v1 + 1) (v2 + 1) else f_X6_pass_14 N n (mUp (mUp q52.2 13 v2.toNatClampNeg ((q52.2 13 v2.toNatClampNeg) + 1)) 6 ((2 * v2) + ((mUp q52.2 13 v2.toNatClampNeg ((q52.2 13 v2.toNatClampNeg) + 1)) 11 v2.toNatClampNeg)).toNatClampNeg (((mUp q52.2 13 v2.toNatClampNeg ((q52.2 13 v2.toNatClampNeg) + 1)) 6 ((2 * v2) + ((mUp q52.2 13 v2.toNatClampNeg ((q52.2 13 v2.toNatClampNeg) + 1)) 11 v2.toNatClampNeg)).toNatClampNeg) - 1)) v1 (v2 + 1) else none else none else f_X6_pass_14 N n (mUp q52.2 13 v2.toNatClampNeg ((q52.2 13 v2.toNatClampNeg) + 1)) v1 (v2 + 1) else none
set_option maxHeartbeats 4000000 in
set_option maxRecDepth 100000 in
theorem w_X6_pass_14 {l : Launch} {D : va_G} {y : Nat → ClassId} {ad : Nat → Nat} {N : Nat} {p : Program} {e : Env} {s : State} {m : MethodId} {args : Array Value} {below : List Frame} {meth : Method} {c : Code} (hB : mBd p s m args meth c cX6_pass 3 wsX6_pass RX6 (some .int))  {q : Int32 × mSt}   : ∀ (n : Nat) (ρ : mSt) (v1 : Int32) (v2 : Int32), f_X6_pass_14 N   n ρ v1 v2 = some q → ∀ (H : Heap) (locs : List Loc) (ls : Array Slot), mV D y (mFree 21 ad s.heap.size) s s.heap H locs 21 ad (mR y ad ρ) → lv_has ls 3 [(0, .ref (ad 0)), (1, .int v1), (2, .int v2)] → W p l e { frames := 2, cells := 0, slots := 0, locals := 46 } s m args below meth c H locs 0 0 (MQ below (mQ (some (.int q.1)) D 21 ad (mR y ad q.2) s.heap.size) args s 0 0 (mFree 21 ad s.heap.size)) (F0 m 14 ls []) := by
  obtain ⟨hx, hb, hml, hown, hts, hr, hlk⟩ := id hB
  intro n
  induction n with
  | zero =>
    intro ρ v1 v2 h
    exact nomatch h
  | succ n ih =>
    intro ρ v1 v2 h H locs ls V hl
    rw [f_X6_pass_14] at h
    refine lv_iload_n hx hb dX6_pass_14 rfl (lv_at hl 2 rfl) ?_
    refine lv_aload_n hx hb dX6_pass_15 rfl (lv_at hl 0 rfl) ?_
    refine gR_T hx hb hts hown (fun _ h => List.mem_cons_of_mem _ (List.mem_append_right _ h)) V 7 (by decide) (hts _ (List.mem_of_getElem? (i := 2) rfl)) (v := .int (ρ 22 0)) rfl dX6_pass_16 ?_
    refine lv_icmp_ge (tgt := 124) hx hb dX6_pass_19 (by decide) (fun hc51 => ?_) (fun hc51 => ?_)
    · replace h := ite_t hc51 h
      refine lv_iconst (v := 0) hx hb dX6_pass_124 (by decide) ?_
      refine lv_istore_n (lv' := [(2, .int 0), (0, .ref (ad 0)), (1, .int v1)]) hx hb dX6_pass_125 rfl hl (by decide) rfl (fun ls hl => ?_)
      exact w_X6_pass_126 hB _ _ _ _ h _ _ _ V (lv_sub hl [1, 2, 0] rfl)
    · replace h := ite_f hc51 h
      refine lv_aload_n hx hb dX6_pass_22 rfl (lv_at hl 0 rfl) ?_
      refine lv_iload_n hx hb dX6_pass_23 rfl (lv_at hl 2 rfl) ?_
      obtain ⟨q52, hq52, h⟩ := bd_s h
      refine kRR (As := [.int v2]) (rest := []) ⟨hx, hb, hml, hown, hts⟩ V (c_X6_runs (l := l) (D := D) (y := y) (ad := ad) hq52) (cwV 1 hts gX6_pass_X6_runs rfl rfl rfl (by decide +kernel) ⟨Nat.le_of_ble_eq_true rfl, Nat.le_of_ble_eq_true rfl⟩) (by omega) (mR_T y ad _) rfl rfl hl.1 rfl (Nat.le_of_ble_eq_true rfl) ⟨Nat.zero_le _, Nat.zero_le _⟩ rfl dX6_pass_24 (fun H locs V => ?_)
      refine lv_if_ne (tgt := 33) hx hb dX6_pass_27 (by decide) (fun hc53 => ?_) (fun hc53 => ?_)
      · replace h := ite_f hc53 h
        refine lv_aload_n hx hb dX6_pass_33 rfl (lv_at hl 0 rfl) ?_
        refine gR_T hx hb hts hown (fun _ h => List.mem_cons_of_mem _ (List.mem_append_right _ h)) V 16 (by decide) (hts _ (List.mem_of_getElem? (i := 3) rfl)) (v := .ref (ad 14)) rfl dX6_pass_34 ?_
        refine lv_iload_n hx hb dX6_pass_37 rfl (lv_at hl 2 rfl) ?_
        refine lv_dup2_11 hx hb dX6_pass_38 rfl rfl ?_
        obtain ⟨hi54, h⟩ := gd_s h
        refine aR_I hx hb V 13 14 16 (by decide) rfl rfl hi54 dX6_pass_39 ?_
        refine lv_iconst (v := 1) hx hb dX6_pass_40 (by decide) ?_
        refine lv_iadd hx hb dX6_pass_41 ?_
        refine bR_I hx hb V 13 14 16 (by decide) rfl rfl hi54 dX6_pass_42 (fun H locs V => ?_)
        refine lv_aload_n hx hb dX6_pass_43 rfl (lv_at hl 0 rfl) ?_
        refine gR_T hx hb hts hown (fun _ h => List.mem_cons_of_mem _ (List.mem_append_right _ h)) V 16 (by decide) (hts _ (List.mem_of_getElem? (i := 3) rfl)) (v := .ref (ad 14)) rfl dX6_pass_44 ?_
        refine lv_iload_n hx hb dX6_pass_47 rfl (lv_at hl 2 rfl) ?_
        refine aR_I hx hb V 13 14 16 (by decide) rfl rfl hi54 dX6_pass_48 ?_
        refine lv_aload_n hx hb dX6_pass_49 rfl (lv_at hl 0 rfl) ?_
        refine gR_T hx hb hts hown (fun _ h => List.mem_cons_of_mem _ (List.mem_append_right _ h)) V 12 (by decide) (hts _ (List.mem_of_getElem? (i := 4) rfl)) (v := .ref (ad 10)) rfl dX6_pass_50 ?_
        refine lv_iload_n hx hb dX6_pass_53 rfl (lv_at hl 2 rfl) ?_
        refine aR_I hx hb V 9 10 16 (by decide) rfl rfl hi54 dX6_pass_54 ?_
        refine lv_icmp_gt (tgt := 61) hx hb dX6_pass_55 (by decide) (fun hc57 => ?_) (fun hc57 => ?_)
        · replace h := ite_t hc57 h
          refine lv_aload_n hx hb dX6_pass_61 rfl (lv_at hl 0 rfl) ?_
          refine gR_T hx hb hts hown (fun _ h => List.mem_cons_of_mem _ (List.mem_append_right _ h)) V 9 (by decide) (hts _ (List.mem_of_getElem? (i := 5) rfl)) (v := .ref (ad 7)) rfl dX6_pass_62 ?_
          refine lv_iconst (v := 2) hx hb dX6_pass_65 (by decide) ?_
          refine lv_iload_n hx hb dX6_pass_66 rfl (lv_at hl 2 rfl) ?_
          refine lv_imul hx hb dX6_pass_67 ?_
          refine lv_aload_n hx hb dX6_pass_68 rfl (lv_at hl 0 rfl) ?_
          refine gR_T hx hb hts hown (fun _ h => List.mem_cons_of_mem _ (List.mem_append_right _ h)) V 14 (by decide) (hts _ (List.mem_of_getElem? (i := 6) rfl)) (v := .ref (ad 12)) rfl dX6_pass_69 ?_
          refine lv_iload_n hx hb dX6_pass_72 rfl (lv_at hl 2 rfl) ?_
          refine aR_I hx hb V 11 12 16 (by decide) rfl rfl hi54 dX6_pass_73 ?_
          refine lv_iadd hx hb dX6_pass_74 ?_
          refine lv_dup2_11 hx hb dX6_pass_75 rfl rfl ?_
          obtain ⟨hi59, h⟩ := gd_s h
          refine aR_I hx hb V 6 7 32 (by decide) rfl rfl hi59 dX6_pass_76 ?_
          refine lv_iconst (v := 1) hx hb dX6_pass_77 (by decide) ?_
          refine lv_isub hx hb dX6_pass_78 ?_
          refine bR_I hx hb V 6 7 32 (by decide) rfl rfl hi59 dX6_pass_79 (fun H locs V => ?_)
          refine lv_aload_n hx hb dX6_pass_80 rfl (lv_at hl 0 rfl) ?_
          refine gR_T hx hb hts hown (fun _ h => List.mem_cons_of_mem _ (List.mem_append_right _ h)) V 9 (by decide) (hts _ (List.mem_of_getElem? (i := 5) rfl)) (v := .ref (ad 7)) rfl dX6_pass_81 ?_
          refine lv_iconst (v := 2) hx hb dX6_pass_84 (by decide) ?_
          refine lv_iload_n hx hb dX6_pass_85 rfl (lv_at hl 2 rfl) ?_
          refine lv_imul hx hb dX6_pass_86 ?_
          refine lv_aload_n hx hb dX6_pass_87 rfl (lv_at hl 0 rfl) ?_
          refine gR_T hx hb hts hown (fun _ h => List.mem_cons_of_mem _ (List.mem_append_right _ h)) V 14 (by decide) (hts _ (List.mem_of_getElem? (i := 6) rfl)) (v := .ref (ad 12)) rfl dX6_pass_88 ?_
          refine lv_iload_n hx hb dX6_pass_91 rfl (lv_at hl 2 rfl) ?_
          refine aR_I hx hb V 11 12 16 (by decide) rfl rfl hi54 dX6_pass_92 ?_
          refine lv_iadd hx hb dX6_pass_93 ?_
          obtain ⟨hi61, h⟩ := gd_s h
          refine aR_I hx hb V 6 7 32 (by decide) rfl rfl hi61 dX6_pass_94 ?_
          refine lv_if_le (tgt := 101) hx hb dX6_pass_95 (by decide) (fun hc62 => ?_) (fun hc62 => ?_)
          · replace h := ite_t hc62 h
            refine lv_aload_n hx hb dX6_pass_101 rfl (lv_at hl 0 rfl) ?_
            refine lv_iload_n hx hb dX6_pass_102 rfl (lv_at hl 2 rfl) ?_
            refine lv_iconst (v := 1) hx hb dX6_pass_103 (by decide) ?_
            refine lv_aload_n hx hb dX6_pass_104 rfl (lv_at hl 0 rfl) ?_
            refine gR_T hx hb hts hown (fun _ h => List.mem_cons_of_mem _ (List.mem_append_right _ h)) V 14 (by decide) (hts _ (List.mem_of_getElem? (i := 6) rfl)) (v := .ref (ad 12)) rfl dX6_pass_105 ?_
            refine lv_iload_n hx hb dX6_pass_108 rfl (lv_at hl 2 rfl) ?_
            refine aR_I hx hb V 11 12 16 (by decide) rfl rfl hi54 dX6_pass_109 ?_
            refine lv_isub hx hb dX6_pass_110 ?_
            obtain ⟨q64, hq64, h⟩ := bd_s h
            refine kRR (As := [.int v2, .int (1 - ((mUp (mUp q52.2 13 v2.toNatClampNeg ((q52.2 13 v2.toNatClampNeg) + 1)) 6 ((2 * v2) + ((mUp q52.2 13 v2.toNatClampNeg ((q52.2 13 v2.toNatClampNeg) + 1)) 11 v2.toNatClampNeg)).toNatClampNeg (((mUp q52.2 13 v2.toNatClampNeg ((q52.2 13 v2.toNatClampNeg) + 1)) 6 ((2 * v2) + ((mUp q52.2 13 v2.toNatClampNeg ((q52.2 13 v2.toNatClampNeg) + 1)) 11 v2.toNatClampNeg)).toNatClampNeg) - 1)) 11 v2.toNatClampNeg))]) (rest := []) ⟨hx, hb, hml, hown, hts⟩ V (c_X6_win (l := l) (D := D) (y := y) (ad := ad) hq64) (cwV 2 hts gX6_pass_X6_win rfl rfl rfl (by decide +kernel) ⟨Nat.le_of_ble_eq_true rfl, Nat.le_of_ble_eq_true rfl⟩) (by omega) (mR_T y ad _) rfl rfl hl.1 rfl (Nat.le_of_ble_eq_true rfl) ⟨Nat.zero_le _, Nat.zero_le _⟩ rfl dX6_pass_111 (fun H locs V => ?_)
            refine lv_pop hx hb dX6_pass_114 rfl ?_
            refine lv_iinc (v := v1 + 1) (lv' := [(1, .int (v1 + 1)), (0, .ref (ad 0)), (2, .int v2)]) hx hb dX6_pass_115 hl (k := 1) rfl rfl (by decide) rfl (fun ls hl => ?_)
            refine lv_iinc (v := v2 + 1) (lv' := [(2, .int (v2 + 1)), (1, .int (v1 + 1)), (0, .ref (ad 0))]) hx hb dX6_pass_118 hl (k := 2) rfl rfl (by decide) rfl (fun ls hl => ?_)
            refine lv_goto (tgt := 14) hx hb dX6_pass_121 (by decide) ?_
            exact ih _ _ _ h _ _ _ V (lv_sub hl [2, 1, 0] rfl)
          · replace h := ite_f hc62 h
            refine lv_goto (tgt := 118) hx hb dX6_pass_98 (by decide) ?_
            refine lv_iinc (v := v2 + 1) (lv' := [(2, .int (v2 + 1)), (0, .ref (ad 0)), (1, .int v1)]) hx hb dX6_pass_118 hl (k := 2) rfl rfl (by decide) rfl (fun ls hl => ?_)
            refine lv_goto (tgt := 14) hx hb dX6_pass_121 (by decide) ?_
            exact ih _ _ _ h _ _ _ V (lv_sub hl [1, 2, 0] rfl)
        · replace h := ite_f hc57 h
          refine lv_goto (tgt := 118) hx hb dX6_pass_58 (by decide) ?_
          refine lv_iinc (v := v2 + 1) (lv' := [(2, .int (v2 + 1)), (0, .ref (ad 0)), (1, .int v1)]) hx hb dX6_pass_118 hl (k := 2) rfl rfl (by decide) rfl (fun ls hl => ?_)
          refine lv_goto (tgt := 14) hx hb dX6_pass_121 (by decide) ?_
          exact ih _ _ _ h _ _ _ V (lv_sub hl [1, 2, 0] rfl)
      · replace h := ite_t hc53 h
        refine lv_goto (tgt := 118) hx hb dX6_pass_30 (by decide) ?_
        refine lv_iinc (v := v2 + 1) (lv' := [(2, .int (v2 + 1)), (0, .ref (ad 0)), (1, .int v1)]) hx hb dX6_pass_118 hl (k := 2) rfl rfl (by decide) rfl (fun ls hl => ?_)
        refine lv_goto (tgt := 14) hx hb dX6_pass_121 (by decide) ?_
        exact ih _ _ _ h _ _ _ V (lv_sub hl [1, 2, 0] rfl)
def f_X6_pass (N : Nat) (ρ : mSt)  : Option (Int32 × mSt) := f_X6_pass_14 N N (mUp ρ 20 0 ((ρ 20 0) + 1)) 0 0
set_option maxHeartbeats 4000000 in
set_option maxRecDepth 100000 in
theorem c_X6_pass {l : Launch} {D : va_G} {y : Nat → ClassId} {ad : Nat → Nat} {N : Nat} {ρ : mSt}  {q : Int32 × mSt} (h : f_X6_pass N ρ = some q) : mC l yX6_pass wsX6_pass { frames := 2, cells := 0, slots := 0, locals := 46 } D y 21 ad mX0 (mR y ad ρ) [.ref (ad 0)] (some (.int q.1)) (mR y ad q.2) 0 0 := by
  refine m_start (cc := cX6_pass) (maxL := 3) (ret := (some .int)) (by decide) rfl (Nat.le_of_ble_eq_true rfl) (fun p e s m args below meth c ls hB _ V _ hl => ?_)
  obtain ⟨hx, hb, hml, hown, hts, hr, hlk⟩ := id hB
  have hl : lv_has ls 3 [(0, .ref (ad 0))] := hl
  rw [f_X6_pass] at h
  refine lv_aload_n hx hb dX6_pass_0 rfl (lv_at hl 0 rfl) ?_
  refine lv_dup hx hb dX6_pass_1 rfl ?_
  refine gR_T hx hb hts hown (fun _ h => List.mem_cons_of_mem _ (List.mem_append_right _ h)) V 0 (by decide) (hts _ (List.mem_of_getElem? (i := 1) rfl)) (v := .int (ρ 20 0)) rfl dX6_pass_2 ?_
  refine lv_iconst (v := 1) hx hb dX6_pass_5 (by decide) ?_
  refine lv_iadd hx hb dX6_pass_6 ?_
  refine pR_T hx hb hts hown (fun _ h => List.mem_cons_of_mem _ (List.mem_append_right _ h)) V 0 20 (by decide) (by decide) (hts _ (List.mem_of_getElem? (i := 1) rfl)) rfl (mR0_s20 _ _ _) dX6_pass_7 (fun H locs V => ?_)
  refine lv_iconst (v := 0) hx hb dX6_pass_10 (by decide) ?_
  refine lv_istore_n (lv' := [(1, .int 0), (0, .ref (ad 0))]) hx hb dX6_pass_11 rfl hl (by decide) rfl (fun ls hl => ?_)
  refine lv_iconst (v := 0) hx hb dX6_pass_12 (by decide) ?_
  refine lv_istore_n (lv' := [(2, .int 0), (1, .int 0), (0, .ref (ad 0))]) hx hb dX6_pass_13 rfl hl (by decide) rfl (fun ls hl => ?_)
  exact w_X6_pass_14 hB _ _ _ _ h _ _ _ V (lv_sub hl [2, 1, 0] rfl)
-- X6_price
def f_X6_price (N : Nat) (ρ : mSt)  : Option (Int32 × mSt) := some (3 + ((mMax 0 (ρ 26 0)) / 1000), ρ)
set_option maxHeartbeats 4000000 in
set_option maxRecDepth 100000 in
theorem c_X6_price {l : Launch} {D : va_G} {y : Nat → ClassId} {ad : Nat → Nat} {N : Nat} {ρ : mSt}  {q : Int32 × mSt} (h : f_X6_price N ρ = some q) : mC l yX6_price wsX6_price { frames := 1, cells := 0, slots := 0, locals := 14 } D y 21 ad mX0 (mR y ad ρ) [.ref (ad 0)] (some (.int q.1)) (mR y ad q.2) 0 0 := by
  refine m_start (cc := cX6_price) (maxL := 1) (ret := (some .int)) (by decide) rfl (Nat.le_of_ble_eq_true rfl) (fun p e s m args below meth c ls hB _ V _ hl => ?_)
  obtain ⟨hx, hb, hml, hown, hts, hr, hlk⟩ := id hB
  have hl : lv_has ls 1 [(0, .ref (ad 0))] := hl
  rw [f_X6_price] at h
  refine lv_iconst (v := 3) hx hb dX6_price_0 (by decide) ?_
  refine lv_iconst (v := 0) hx hb dX6_price_1 (by decide) ?_
  refine lv_aload_n hx hb dX6_price_2 rfl (lv_at hl 0 rfl) ?_
  refine gR_T hx hb hts hown (fun _ h => List.mem_cons_of_mem _ (List.mem_append_right _ h)) V 26 (by decide) (hts _ (List.mem_of_getElem? (i := 1) rfl)) (v := .int (ρ 26 0)) rfl dX6_price_3 ?_
  refine m_max hx hb hml hl.1 hown (hts _ (List.mem_of_getElem? (i := 2) rfl)) (hts _ (List.mem_of_getElem? (i := 3) rfl)) (hts _ (List.mem_of_getElem? (i := 4) rfl)) (hts _ (List.mem_of_getElem? (i := 5) rfl)) (Nat.le_of_ble_eq_true rfl) (Nat.le_of_ble_eq_true rfl) (Nat.zero_le _) (Nat.zero_le _) dX6_price_6 ?_
  refine lv_sipush (v := 1000) hx hb dX6_price_9 (by decide) ?_
  refine lv_idiv hx hb dX6_price_12 (by decide) ?_
  refine lv_iadd hx hb dX6_price_13 ?_
  obtain rfl := Option.some.inj h
  exact m_iret hx hb hr hlk V (Nat.zero_le _) (Nat.zero_le _) dX6_price_14
-- X6_bad
def f_X6_bad_28 (N : Nat)  (rec4 : mSt → Int32 → Int32 → Option (Int32 × mSt)) (ρ : mSt) (v2 : Int32) (s0 : Int32) (s1 : Int32) : Option (Int32 × mSt) := rec4 ρ (s0 + s1) (v2 + 1)
set_option maxHeartbeats 4000000 in
set_option maxRecDepth 100000 in
theorem w_X6_bad_28 {l : Launch} {D : va_G} {y : Nat → ClassId} {ad : Nat → Nat} {N : Nat} {p : Program} {e : Env} {s : State} {m : MethodId} {args : Array Value} {below : List Frame} {meth : Method} {c : Code} (hB : mBd p s m args meth c cX6_bad 3 wsX6_bad RX6 (some .int))  {q : Int32 × mSt} {rec4 : mSt → Int32 → Int32 → Option (Int32 × mSt)} (hrec4 : ∀ (ρ : mSt) (v1 : Int32) (v2 : Int32), rec4 ρ v1 v2 = some q → ∀ (H : Heap) (locs : List Loc) (ls : Array Slot), mV D y (mFree 21 ad s.heap.size) s s.heap H locs 21 ad (mR y ad ρ) → lv_has ls 3 [(0, .ref (ad 0)), (1, .int v1), (2, .int v2)] → W p l e { frames := 0, cells := 0, slots := 0, locals := 0 } s m args below meth c H locs 0 0 (MQ below (mQ (some (.int q.1)) D 21 ad (mR y ad q.2) s.heap.size) args s 0 0 (mFree 21 ad s.heap.size)) (F0 m 4 ls [])) : ∀ (ρ : mSt) (v2 : Int32) (s0 : Int32) (s1 : Int32), f_X6_bad_28 N  rec4 ρ v2 s0 s1 = some q → ∀ (H : Heap) (locs : List Loc) (ls : Array Slot), mV D y (mFree 21 ad s.heap.size) s s.heap H locs 21 ad (mR y ad ρ) → lv_has ls 3 [(0, .ref (ad 0)), (2, .int v2)] → W p l e { frames := 0, cells := 0, slots := 0, locals := 0 } s m args below meth c H locs 0 0 (MQ below (mQ (some (.int q.1)) D 21 ad (mR y ad q.2) s.heap.size) args s 0 0 (mFree 21 ad s.heap.size)) (F0 m 28 ls [.int s1, .int s0]) := by
  obtain ⟨hx, hb, hml, hown, hts, hr, hlk⟩ := id hB
  intro ρ v2 s0 s1 h H locs ls V hl
  rw [f_X6_bad_28] at h
  refine lv_iadd hx hb dX6_bad_28 ?_
  refine lv_istore_n (lv' := [(1, .int (s0 + s1)), (0, .ref (ad 0)), (2, .int v2)]) hx hb dX6_bad_29 rfl hl (by decide) rfl (fun ls hl => ?_)
  refine lv_iinc (v := v2 + 1) (lv' := [(2, .int (v2 + 1)), (1, .int (s0 + s1)), (0, .ref (ad 0))]) hx hb dX6_bad_30 hl (k := 2) rfl rfl (by decide) rfl (fun ls hl => ?_)
  refine lv_goto (tgt := 4) hx hb dX6_bad_33 (by decide) ?_
  exact hrec4 _ _ _ h _ _ _ V (lv_sub hl [2, 1, 0] rfl)
def f_X6_bad_4 (N : Nat)   : Nat → mSt → Int32 → Int32 → Option (Int32 × mSt)
  | 0, _, _, _ => none
  | n + 1, ρ, v1, v2 => if (ρ 23 0) ≤ v2 then some (v1, ρ) else if mIn v2 20 then if (ρ 19 v2.toNatClampNeg) = 2 then f_X6_bad_28 N (fun ρ v1 v2 => f_X6_bad_4 N n ρ v1 v2) ρ v2 v1 1 else f_X6_bad_28 N (fun ρ v1 v2 => f_X6_bad_4 N n ρ v1 v2) ρ v2 v1 0 else none
set_option maxHeartbeats 4000000 in
set_option maxRecDepth 100000 in
theorem w_X6_bad_4 {l : Launch} {D : va_G} {y : Nat → ClassId} {ad : Nat → Nat} {N : Nat} {p : Program} {e : Env} {s : State} {m : MethodId} {args : Array Value} {below : List Frame} {meth : Method} {c : Code} (hB : mBd p s m args meth c cX6_bad 3 wsX6_bad RX6 (some .int))  {q : Int32 × mSt}   : ∀ (n : Nat) (ρ : mSt) (v1 : Int32) (v2 : Int32), f_X6_bad_4 N   n ρ v1 v2 = some q → ∀ (H : Heap) (locs : List Loc) (ls : Array Slot), mV D y (mFree 21 ad s.heap.size) s s.heap H locs 21 ad (mR y ad ρ) → lv_has ls 3 [(0, .ref (ad 0)), (1, .int v1), (2, .int v2)] → W p l e { frames := 0, cells := 0, slots := 0, locals := 0 } s m args below meth c H locs 0 0 (MQ below (mQ (some (.int q.1)) D 21 ad (mR y ad q.2) s.heap.size) args s 0 0 (mFree 21 ad s.heap.size)) (F0 m 4 ls []) := by
  obtain ⟨hx, hb, hml, hown, hts, hr, hlk⟩ := id hB
  intro n
  induction n with
  | zero =>
    intro ρ v1 v2 h
    exact nomatch h
  | succ n ih =>
    intro ρ v1 v2 h H locs ls V hl
    rw [f_X6_bad_4] at h
    refine lv_iload_n hx hb dX6_bad_4 rfl (lv_at hl 2 rfl) ?_
    refine lv_aload_n hx hb dX6_bad_5 rfl (lv_at hl 0 rfl) ?_
    refine gR_T hx hb hts hown (fun _ h => List.mem_cons_of_mem _ (List.mem_append_right _ h)) V 18 (by decide) (hts _ (List.mem_of_getElem? (i := 1) rfl)) (v := .int (ρ 23 0)) rfl dX6_bad_6 ?_
    refine lv_icmp_ge (tgt := 36) hx hb dX6_bad_9 (by decide) (fun hc4 => ?_) (fun hc4 => ?_)
    · replace h := ite_t hc4 h
      refine lv_iload_n hx hb dX6_bad_36 rfl (lv_at hl 1 rfl) ?_
      obtain rfl := Option.some.inj h
      exact m_iret hx hb hr hlk V (Nat.zero_le _) (Nat.zero_le _) dX6_bad_37
    · replace h := ite_f hc4 h
      refine lv_iload_n hx hb dX6_bad_12 rfl (lv_at hl 1 rfl) ?_
      refine lv_aload_n hx hb dX6_bad_13 rfl (lv_at hl 0 rfl) ?_
      refine gR_T hx hb hts hown (fun _ h => List.mem_cons_of_mem _ (List.mem_append_right _ h)) V 23 (by decide) (hts _ (List.mem_of_getElem? (i := 2) rfl)) (v := .ref (ad 20)) rfl dX6_bad_14 ?_
      refine lv_iload_n hx hb dX6_bad_17 rfl (lv_at hl 2 rfl) ?_
      obtain ⟨hi5, h⟩ := gd_s h
      refine aR_I hx hb V 19 20 20 (by decide) rfl rfl hi5 dX6_bad_18 ?_
      refine lv_iconst (v := 2) hx hb dX6_bad_19 (by decide) ?_
      refine lv_icmp_ne (tgt := 27) hx hb dX6_bad_20 (by decide) (fun hc6 => ?_) (fun hc6 => ?_)
      · replace h := ite_f hc6 h
        refine lv_iconst (v := 0) hx hb dX6_bad_27 (by decide) ?_
        exact w_X6_bad_28 hB ih _ _ _ _ h _ _ _ V (lv_sub hl [0, 2] rfl)
      · replace h := ite_t hc6 h
        refine lv_iconst (v := 1) hx hb dX6_bad_23 (by decide) ?_
        refine lv_goto (tgt := 28) hx hb dX6_bad_24 (by decide) ?_
        exact w_X6_bad_28 hB ih _ _ _ _ h _ _ _ V (lv_sub hl [0, 2] rfl)
def f_X6_bad (N : Nat) (ρ : mSt)  : Option (Int32 × mSt) := f_X6_bad_4 N N ρ 0 0
set_option maxHeartbeats 4000000 in
set_option maxRecDepth 100000 in
theorem c_X6_bad {l : Launch} {D : va_G} {y : Nat → ClassId} {ad : Nat → Nat} {N : Nat} {ρ : mSt}  {q : Int32 × mSt} (h : f_X6_bad N ρ = some q) : mC l yX6_bad wsX6_bad { frames := 0, cells := 0, slots := 0, locals := 0 } D y 21 ad mX0 (mR y ad ρ) [.ref (ad 0)] (some (.int q.1)) (mR y ad q.2) 0 0 := by
  refine m_start (cc := cX6_bad) (maxL := 3) (ret := (some .int)) (by decide) rfl (Nat.le_of_ble_eq_true rfl) (fun p e s m args below meth c ls hB _ V _ hl => ?_)
  obtain ⟨hx, hb, hml, hown, hts, hr, hlk⟩ := id hB
  have hl : lv_has ls 3 [(0, .ref (ad 0))] := hl
  rw [f_X6_bad] at h
  refine lv_iconst (v := 0) hx hb dX6_bad_0 (by decide) ?_
  refine lv_istore_n (lv' := [(1, .int 0), (0, .ref (ad 0))]) hx hb dX6_bad_1 rfl hl (by decide) rfl (fun ls hl => ?_)
  refine lv_iconst (v := 0) hx hb dX6_bad_2 (by decide) ?_
  refine lv_istore_n (lv' := [(2, .int 0), (1, .int 0), (0, .ref (ad 0))]) hx hb dX6_bad_3 rfl hl (by decide) rfl (fun ls hl => ?_)
  exact w_X6_bad_4 hB _ _ _ _ h _ _ _ V (lv_sub hl [2, 1, 0] rfl)
