def f_X4_playerAt (N : Nat) (σ : mSt) (a1 : Int32) : Option ((Nat ⊕ String) × mSt) := if a1 < 0 then some (.inr "java/lang/IndexOutOfBoundsException", σ) else if (σ 21 0) ≤ a1 then some (.inr "java/lang/IndexOutOfBoundsException", σ) else if a1 < 8 then if mIn a1 8 then some (.inl a1.toNatClampNeg, σ) else none else some (.inr "java/lang/IndexOutOfBoundsException", σ)
set_option maxHeartbeats 4000000 in
set_option maxRecDepth 100000 in
theorem c_X4_playerAt {l : Launch} {D : va_G} {y : Nat → ClassId} {ad : Nat → Nat} {N : Nat} {σ : mSt} {a1 : Int32} {q : (Nat ⊕ String) × mSt} (hstk : l.stackTraces = false) (h : f_X4_playerAt N σ a1 = some q) : mCX l yX4_playerAt wsX4_playerAt { frames := 6, cells := mOc q.1, slots := mOs q.1, locals := 82 } D y 80 ad mZ (mS y ad σ) [.ref (ad 0), .int a1] (mOr ad 4 q.1) (mS y ad q.2) (mOc q.1) (mOs q.1) := by
  refine m_startX (cc := cX4_playerAt) (maxL := 2) (ret := (some (.object "MinuteBank$Player"))) (by decide) rfl (Nat.le_of_ble_eq_true rfl) (fun p e s m args below meth c ls hB hno V Z hl => ?_)
  obtain ⟨hx, hb, hml, hown, hts, hr, hlk⟩ := id hB
  have hl : lv_has ls 2 [(0, .ref (ad 0)), (1, .int a1)] := hl
  rw [f_X4_playerAt] at h
  refine lv_iload_n hx hb dX4_playerAt_0 rfl (lv_at hl 1 rfl) ?_
  refine lv_if_lt (tgt := 21) hx hb dX4_playerAt_1 (by decide) (fun hc5 => ?_) (fun hc5 => ?_)
  · replace h := ite_t hc5 h
    cases h
    exact m_throw (text := "no such player") hstk hx hb hown hlk hno Z V (by decide +kernel) (hts _ (List.mem_of_getElem? (i := 1) rfl)) (hts _ (List.mem_of_getElem? (i := 2) rfl)) (List.mem_of_getElem? (i := 36) rfl) (fun w h => hts w ((fun _ h => List.mem_cons_of_mem _ (List.mem_append_right _ h)) w h)) (mB_RX4_87) (mG_RX4_83_87) (hl.1.trans hml.symm) dX4_playerAt_21 dX4_playerAt_24 dX4_playerAt_25 dX4_playerAt_27 dX4_playerAt_30 (Nat.le_of_ble_eq_true rfl) (Nat.le_of_ble_eq_true rfl) (Nat.le_refl _) (Nat.le_refl _) (Nat.le_refl _) (Nat.le_refl _) rfl
  · replace h := ite_f hc5 h
    refine lv_iload_n hx hb dX4_playerAt_4 rfl (lv_at hl 1 rfl) ?_
    refine lv_aload_n hx hb dX4_playerAt_5 rfl (lv_at hl 0 rfl) ?_
    refine gS_T hx hb hts hown (fun _ h => List.mem_cons_of_mem _ (List.mem_append_left _ (List.mem_append_right _ h))) V 0 21 (by decide) rfl (hts _ (List.mem_of_getElem? (i := 3) rfl)) dX4_playerAt_6 ?_
    refine lv_icmp_ge (tgt := 21) hx hb dX4_playerAt_9 (by decide) (fun hc6 => ?_) (fun hc6 => ?_)
    · replace h := ite_t hc6 h
      cases h
      exact m_throw (text := "no such player") hstk hx hb hown hlk hno Z V (by decide +kernel) (hts _ (List.mem_of_getElem? (i := 1) rfl)) (hts _ (List.mem_of_getElem? (i := 2) rfl)) (List.mem_of_getElem? (i := 36) rfl) (fun w h => hts w ((fun _ h => List.mem_cons_of_mem _ (List.mem_append_right _ h)) w h)) (mB_RX4_87) (mG_RX4_83_87) (hl.1.trans hml.symm) dX4_playerAt_21 dX4_playerAt_24 dX4_playerAt_25 dX4_playerAt_27 dX4_playerAt_30 (Nat.le_of_ble_eq_true rfl) (Nat.le_of_ble_eq_true rfl) (Nat.le_refl _) (Nat.le_refl _) (Nat.le_refl _) (Nat.le_refl _) rfl
    · replace h := ite_f hc6 h
      refine lv_iload_n hx hb dX4_playerAt_12 rfl (lv_at hl 1 rfl) ?_
      refine lv_aload_n hx hb dX4_playerAt_13 rfl (lv_at hl 0 rfl) ?_
      refine rS_P hx hb hts hown (fun _ h => List.mem_cons_of_mem _ (List.mem_append_left _ (List.mem_append_right _ h))) V (hts _ (List.mem_of_getElem? (i := 4) rfl)) dX4_playerAt_14 ?_
      refine nS_P hx hb V dX4_playerAt_17 ?_
      refine lv_icmp_lt (tgt := 31) hx hb dX4_playerAt_18 (by decide) (fun hc7 => ?_) (fun hc7 => ?_)
      · replace h := ite_t hc7 h
        refine lv_aload_n hx hb dX4_playerAt_31 rfl (lv_at hl 0 rfl) ?_
        refine rS_P hx hb hts hown (fun _ h => List.mem_cons_of_mem _ (List.mem_append_left _ (List.mem_append_right _ h))) V (hts _ (List.mem_of_getElem? (i := 4) rfl)) dX4_playerAt_32 ?_
        refine lv_iload_n hx hb dX4_playerAt_35 rfl (lv_at hl 1 rfl) ?_
        obtain ⟨hi8, h⟩ := gd_s h
        refine aS_P hx hb V hi8 dX4_playerAt_36 ?_
        cases h
        exact m_aretX hx hb hr hlk V (Nat.zero_le _) (Nat.zero_le _) rfl dX4_playerAt_37
      · replace h := ite_f hc7 h
        cases h
        exact m_throw (text := "no such player") hstk hx hb hown hlk hno Z V (by decide +kernel) (hts _ (List.mem_of_getElem? (i := 1) rfl)) (hts _ (List.mem_of_getElem? (i := 2) rfl)) (List.mem_of_getElem? (i := 36) rfl) (fun w h => hts w ((fun _ h => List.mem_cons_of_mem _ (List.mem_append_right _ h)) w h)) (mB_RX4_87) (mG_RX4_83_87) (hl.1.trans hml.symm) dX4_playerAt_21 dX4_playerAt_24 dX4_playerAt_25 dX4_playerAt_27 dX4_playerAt_30 (Nat.le_of_ble_eq_true rfl) (Nat.le_of_ble_eq_true rfl) (Nat.le_refl _) (Nat.le_refl _) (Nat.le_refl _) (Nat.le_refl _) rfl
def f_X4_bringBack (N : Nat) (σ : mSt) (a1 : Nat) (a2 : Int32) : Option (Unit × mSt) := if a1 < 20 then some ((), (mUp (mUp σ 6 a1 ((σ 6 a1) - a2)) 25 0 (((mUp σ 6 a1 ((σ 6 a1) - a2)) 25 0) + a2))) else none
set_option maxHeartbeats 4000000 in
set_option maxRecDepth 100000 in
theorem c_X4_bringBack {l : Launch} {D : va_G} {y : Nat → ClassId} {ad : Nat → Nat} {N : Nat} {σ : mSt} {a1 : Nat} {a2 : Int32} {q : Unit × mSt} (hstk : l.stackTraces = false) (h : f_X4_bringBack N σ a1 a2 = some q) : mC l yX4_bringBack wsX4_bringBack { frames := 0, cells := 0, slots := 0, locals := 0 } D y 80 ad mZ (mS y ad σ) [.ref (ad 0), .ref (ad (12 + a1)), .int a2] none (mS y ad q.2) 0 0 := by
  refine m_start (cc := cX4_bringBack) (maxL := 3) (ret := none) (by decide) rfl (Nat.le_of_ble_eq_true rfl) (fun p e s m args below meth c ls hB _ V Z hl => ?_)
  obtain ⟨hx, hb, hml, hown, hts, hr, hlk⟩ := id hB
  have hl : lv_has ls 3 [(0, .ref (ad 0)), (1, .ref (ad (12 + a1))), (2, .int a2)] := hl
  rw [f_X4_bringBack] at h
  obtain ⟨hg2, h⟩ := gd_s h
  refine lv_aload_n hx hb dX4_bringBack_0 rfl (lv_at hl 1 rfl) ?_
  refine lv_dup hx hb dX4_bringBack_1 rfl ?_
  refine gS_L hx hb hts hown (fun _ h => List.mem_cons_of_mem _ (List.mem_append_left _ (List.mem_append_right _ h))) V hg2 1 6 (by decide) rfl (hts _ (List.mem_of_getElem? (i := 1) rfl)) dX4_bringBack_2 ?_
  refine lv_iload_n hx hb dX4_bringBack_5 rfl (lv_at hl 2 rfl) ?_
  refine lv_isub hx hb dX4_bringBack_6 ?_
  refine pS_L hx hb hts hown (fun _ h => List.mem_cons_of_mem _ (List.mem_append_left _ (List.mem_append_right _ h))) V hg2 1 6 (by decide) rfl (hts _ (List.mem_of_getElem? (i := 1) rfl)) dX4_bringBack_7 (fun H locs V => ?_)
  refine lv_aload_n hx hb dX4_bringBack_10 rfl (lv_at hl 0 rfl) ?_
  refine lv_dup hx hb dX4_bringBack_11 rfl ?_
  refine gS_T hx hb hts hown (fun _ h => List.mem_cons_of_mem _ (List.mem_append_right _ h)) V 4 25 (by decide) rfl (hts _ (List.mem_of_getElem? (i := 2) rfl)) dX4_bringBack_12 ?_
  refine lv_iload_n hx hb dX4_bringBack_15 rfl (lv_at hl 2 rfl) ?_
  refine lv_iadd hx hb dX4_bringBack_16 ?_
  refine pS_T hx hb hts hown (fun _ h => List.mem_cons_of_mem _ (List.mem_append_right _ h)) V 4 25 (by decide) rfl (hts _ (List.mem_of_getElem? (i := 2) rfl)) dX4_bringBack_17 (fun H locs V => ?_)
  cases h
  exact m_vret hx hb hr hlk V (Nat.zero_le _) (Nat.zero_le _) dX4_bringBack_20
def f_X4_takeFromPocket (N : Nat) (σ : mSt) (a1 : Nat) (a2 : Int32) : Option (Int32 × mSt) := if a1 < 20 then (f_X4_playerAt N σ (σ 5 a1)).bind fun q9 => oCase q9.1 (fun r10 => if r10 < 8 then (f_X4_bringBack N (mUp q9.2 1 r10 ((q9.2 1 r10) - (mMin (mMin a2 (q9.2 6 a1)) (q9.2 1 r10)))) a1 (mMin (mMin a2 (q9.2 6 a1)) (q9.2 1 r10))).bind fun q14 => some (mMin (mMin a2 (q9.2 6 a1)) (q9.2 1 r10), q14.2) else none) (fun _ => none) else none
set_option maxHeartbeats 4000000 in
set_option maxRecDepth 100000 in
theorem c_X4_takeFromPocket {l : Launch} {D : va_G} {y : Nat → ClassId} {ad : Nat → Nat} {N : Nat} {σ : mSt} {a1 : Nat} {a2 : Int32} {q : Int32 × mSt} (hstk : l.stackTraces = false) (h : f_X4_takeFromPocket N σ a1 a2 = some q) : mC l yX4_takeFromPocket wsX4_takeFromPocket { frames := 7, cells := 0, slots := 0, locals := 103 } D y 80 ad mZ (mS y ad σ) [.ref (ad 0), .ref (ad (12 + a1)), .int a2] (some (.int q.1)) (mS y ad q.2) 0 0 := by
  refine m_start (cc := cX4_takeFromPocket) (maxL := 5) (ret := (some .int)) (by decide) rfl (Nat.le_of_ble_eq_true rfl) (fun p e s m args below meth c ls hB _ V Z hl => ?_)
  obtain ⟨hx, hb, hml, hown, hts, hr, hlk⟩ := id hB
  have hl : lv_has ls 5 [(0, .ref (ad 0)), (1, .ref (ad (12 + a1))), (2, .int a2)] := hl
  rw [f_X4_takeFromPocket] at h
  obtain ⟨hg8, h⟩ := gd_s h
  refine lv_aload_n hx hb dX4_takeFromPocket_0 rfl (lv_at hl 0 rfl) ?_
  refine lv_aload_n hx hb dX4_takeFromPocket_1 rfl (lv_at hl 1 rfl) ?_
  refine gS_L hx hb hts hown (fun _ h => List.mem_cons_of_mem _ (List.mem_append_left _ (List.mem_append_left _ (List.mem_append_left _ (List.mem_append_right _ h))))) V hg8 0 5 (by decide) rfl (hts _ (List.mem_of_getElem? (i := 1) rfl)) dX4_takeFromPocket_2 ?_
  obtain ⟨q9, hq9, h⟩ := bd_s h
  cases ho12 : q9.1 with
  | inl r10 =>
    replace h := oCase_l ho12 h
    obtain ⟨hg13, h⟩ := gd_s h
    refine kSS (As := [.int (σ 5 a1)]) (rest := []) ⟨hx, hb, hml, hown, hts⟩ Z V (mOr_plain ho12 (c_X4_playerAt (l := l) (D := D) (y := y) (ad := ad) hstk hq9)) (cwV 1 hts gX4_takeFromPocket_X4_playerAt rfl rfl rfl (by decide +kernel) ⟨Nat.le_of_ble_eq_true rfl, Nat.le_of_ble_eq_true rfl⟩) (by omega) (mS_T y ad _) rfl rfl hl.1 rfl (Nat.le_of_ble_eq_true rfl) ⟨Nat.zero_le _, Nat.zero_le _⟩ rfl dX4_takeFromPocket_5 (fun H locs V => ?_)
    refine lv_astore_n (lv' := [(3, .ref (ad (4 + r10))), (0, .ref (ad 0)), (1, .ref (ad (12 + a1))), (2, .int a2)]) hx hb dX4_takeFromPocket_8 rfl hl (by decide) rfl (fun ls hl => ?_)
    refine lv_iload_n hx hb dX4_takeFromPocket_9 rfl (lv_at hl 3 rfl) ?_
    refine lv_aload_n hx hb dX4_takeFromPocket_10 rfl (lv_at hl 2 rfl) ?_
    refine gS_L hx hb hts hown (fun _ h => List.mem_cons_of_mem _ (List.mem_append_left _ (List.mem_append_left _ (List.mem_append_left _ (List.mem_append_right _ h))))) V hg8 1 6 (by decide) rfl (hts _ (List.mem_of_getElem? (i := 2) rfl)) dX4_takeFromPocket_11 ?_
    refine m_min hx hb hml hl.1 hown (hts _ (List.mem_of_getElem? (i := 3) rfl)) (hts _ (List.mem_of_getElem? (i := 4) rfl)) (hts _ (List.mem_of_getElem? (i := 5) rfl)) (hts _ (List.mem_of_getElem? (i := 6) rfl)) (Nat.le_of_ble_eq_true rfl) (Nat.le_of_ble_eq_true rfl) (Nat.zero_le _) (Nat.zero_le _) dX4_takeFromPocket_14 ?_
    refine lv_aload_n hx hb dX4_takeFromPocket_17 rfl (lv_at hl 0 rfl) ?_
    refine gS_P hx hb hts hown (fun _ h => List.mem_cons_of_mem _ (List.mem_append_left _ (List.mem_append_left _ (List.mem_append_right _ h)))) V hg13 1 1 (by decide) rfl (hts _ (List.mem_of_getElem? (i := 7) rfl)) dX4_takeFromPocket_18 ?_
    refine m_min hx hb hml hl.1 hown (hts _ (List.mem_of_getElem? (i := 3) rfl)) (hts _ (List.mem_of_getElem? (i := 4) rfl)) (hts _ (List.mem_of_getElem? (i := 5) rfl)) (hts _ (List.mem_of_getElem? (i := 6) rfl)) (Nat.le_of_ble_eq_true rfl) (Nat.le_of_ble_eq_true rfl) (Nat.zero_le _) (Nat.zero_le _) dX4_takeFromPocket_21 ?_
    refine lv_istore (lv' := [(4, .int (mMin (mMin a2 (q9.2 6 a1)) (q9.2 1 r10))), (3, .ref (ad (4 + r10))), (0, .ref (ad 0)), (1, .ref (ad (12 + a1))), (2, .int a2)]) hx hb dX4_takeFromPocket_24 hl (by decide) rfl (fun ls hl => ?_)
    refine lv_aload_n hx hb dX4_takeFromPocket_26 rfl (lv_at hl 1 rfl) ?_
    refine lv_dup hx hb dX4_takeFromPocket_27 rfl ?_
    refine gS_P hx hb hts hown (fun _ h => List.mem_cons_of_mem _ (List.mem_append_left _ (List.mem_append_left _ (List.mem_append_right _ h)))) V hg13 1 1 (by decide) rfl (hts _ (List.mem_of_getElem? (i := 7) rfl)) dX4_takeFromPocket_28 ?_
    refine lv_iload hx hb dX4_takeFromPocket_31 (lv_at hl 0 rfl) ?_
    refine lv_isub hx hb dX4_takeFromPocket_33 ?_
    refine pS_P hx hb hts hown (fun _ h => List.mem_cons_of_mem _ (List.mem_append_left _ (List.mem_append_left _ (List.mem_append_right _ h)))) V hg13 1 1 (by decide) rfl (hts _ (List.mem_of_getElem? (i := 7) rfl)) dX4_takeFromPocket_34 (fun H locs V => ?_)
    refine lv_aload_n hx hb dX4_takeFromPocket_37 rfl (lv_at hl 2 rfl) ?_
    refine lv_aload_n hx hb dX4_takeFromPocket_38 rfl (lv_at hl 3 rfl) ?_
    refine lv_iload hx hb dX4_takeFromPocket_39 (lv_at hl 0 rfl) ?_
    obtain ⟨q14, hq14, h⟩ := bd_s h
    refine kSS (As := [.ref (ad (12 + a1)), .int (mMin (mMin a2 (q9.2 6 a1)) (q9.2 1 r10))]) (rest := []) ⟨hx, hb, hml, hown, hts⟩ Z V (c_X4_bringBack (l := l) (D := D) (y := y) (ad := ad) hstk hq14) (cwV 2 hts gX4_takeFromPocket_X4_bringBack rfl rfl rfl (by decide +kernel) ⟨Nat.le_of_ble_eq_true rfl, Nat.le_of_ble_eq_true rfl⟩) (by omega) (mS_T y ad _) rfl rfl hl.1 rfl (Nat.le_of_ble_eq_true rfl) ⟨Nat.zero_le _, Nat.zero_le _⟩ rfl dX4_takeFromPocket_41 (fun H locs V => ?_)
    refine lv_iload hx hb dX4_takeFromPocket_44 (lv_at hl 0 rfl) ?_
    cases h
    exact m_iret hx hb hr hlk V (Nat.zero_le _) (Nat.zero_le _) dX4_takeFromPocket_46
  | inr e11 =>
    exact nomatch (oCase_r ho12 h)
