-- X4_playerAt
def f_X4_playerAt (N : Nat) (σ : mSt) (a1 : Int32) : Option ((Nat ⊕ String) × mSt) := if a1 < 0 then some (.inr "java/lang/IndexOutOfBoundsException", σ) else if (σ 21 0) ≤ a1 then some (.inr "java/lang/IndexOutOfBoundsException", σ) else if a1 < 8 then if mIn a1 8 then some (.inl a1.toNatClampNeg, σ) else none else some (.inr "java/lang/IndexOutOfBoundsException", σ)
set_option maxHeartbeats 4000000 in
set_option maxRecDepth 100000 in
theorem c_X4_playerAt {l : Launch} {D : va_G} {y : Nat → ClassId} {ad : Nat → Nat} {N : Nat} {σ : mSt} {a1 : Int32} {q : (Nat ⊕ String) × mSt} (hstk : l.stackTraces = false) (h : f_X4_playerAt N σ a1 = some q) : mCX l yX4_playerAt wsX4_playerAt { frames := 6, cells := mOc q.1, slots := mOs q.1, locals := 82 } D y 80 ad mZ (mS y ad σ) [.ref (ad 0), .int a1] (mOr ad 4 q.1) (mS y ad q.2) (mOc q.1) (mOs q.1) := by
  refine m_startX (cc := cX4_playerAt) (maxL := 2) (ret := (some (.object "MinuteBank$Player"))) (by decide) rfl (Nat.le_of_ble_eq_true rfl) (fun p e s m args below meth c ls hB hno V Z hl => ?_)
  obtain ⟨hx, hb, hml, hown, hts, hr, hlk⟩ := id hB
  have hl : lv_has ls 2 [(0, .ref (ad 0)), (1, .int a1)] := hl
  rw [f_X4_playerAt] at h
  refine lv_iload_n hx hb dX4_playerAt_0 rfl (lv_at hl 1 rfl) ?_
  refine lv_if_lt (tgt := 21) hx hb dX4_playerAt_1 (by decide) (fun hc5 => ?_) (fun hc5 => ?_)
  · replace h := ite_t hc5 h
    obtain rfl := Option.some.inj h
    exact m_throw (text := "no such player") hstk hx hb hown hlk hno Z V (by decide +kernel) (hts _ (List.mem_of_getElem? (i := 1) rfl)) (hts _ (List.mem_of_getElem? (i := 2) rfl)) (List.mem_of_getElem? (i := 36) rfl) (fun w h => hts w ((fun _ h => List.mem_cons_of_mem _ (List.mem_append_right _ h)) w h)) (mB_RX4_87) (mG_RX4_83_87) (hl.1.trans hml.symm) dX4_playerAt_21 dX4_playerAt_24 dX4_playerAt_25 dX4_playerAt_27 dX4_playerAt_30 (Nat.le_of_ble_eq_true rfl) (Nat.le_of_ble_eq_true rfl) (Nat.le_refl _) (Nat.le_refl _) (Nat.le_refl _) (Nat.le_refl _) rfl
  · replace h := ite_f hc5 h
    refine lv_iload_n hx hb dX4_playerAt_4 rfl (lv_at hl 1 rfl) ?_
    refine lv_aload_n hx hb dX4_playerAt_5 rfl (lv_at hl 0 rfl) ?_
    refine gS_T hx hb hts hown (fun _ h => List.mem_cons_of_mem _ (List.mem_append_left _ (List.mem_append_right _ h))) V 0 21 (by decide) rfl (hts _ (List.mem_of_getElem? (i := 3) rfl)) dX4_playerAt_6 ?_
    refine lv_icmp_ge (tgt := 21) hx hb dX4_playerAt_9 (by decide) (fun hc6 => ?_) (fun hc6 => ?_)
    · replace h := ite_t hc6 h
      obtain rfl := Option.some.inj h
      exact m_throw (text := "no such player") hstk hx hb hown hlk hno Z V (by decide +kernel) (hts _ (List.mem_of_getElem? (i := 1) rfl)) (hts _ (List.mem_of_getElem? (i := 2) rfl)) (List.mem_of_getElem? (i := 36) rfl) (fun w h => hts w ((fun _ h => List.mem_cons_of_mem _ (List.mem_append_right _ h)) w h)) (mB_RX4_87) (mG_RX4_83_87) (hl.1.trans hml.symm) dX4_playerAt_21 dX4_playerAt_24 dX4_playerAt_25 dX4_playerAt_27 dX4_playerAt_30 (Nat.le_of_ble_eq_true rfl) (Nat.le_of_ble_eq_true rfl) (Nat.le_refl _) (Nat.le_refl _) (Nat.le_refl _) (Nat.le_refl _) rfl
    · replace h := ite_f hc6 h
      refine lv_iload_n hx hb dX4_playerAt_12 rfl (lv_at hl 1 rfl) ?_
      refine lv_aload_n hx hb dX4_playerAt_13 rfl (lv_at hl 0 rfl) ?_
      refine rS_P hx hb hts hown (fun _ h => List.mem_cons_of_mem _ (List.mem_append_left _ (List.mem_append_right _ h))) V (hts _ (List.mem_of_getElem? (i := 4) rfl)) dX4_playerAt_14 ?_
      refine nS_P hx hb V dX4_playerAt_17 ?_
      refine lv_icmp_lt (tgt := 31) hx hb dX4_playerAt_18 (by decide) (fun hc7 => ?_) (fun hc7 => ?_)
      · replace h := ite_t hc7 h
        refine lv_aload_n hx hb dX4_playerAt_31 rfl (lv_at hl 0 rfl) ?_
        refine rS_P hx hb hts hown (fun _ h => List.mem_cons_of_mem _ (List.mem_append_left _ (List.mem_append_right _ h))) V (hts _ (List.mem_of_getElem? (i := 4) rfl)) dX4_playerAt_32 ?_
        refine lv_iload_n hx hb dX4_playerAt_35 rfl (lv_at hl 1 rfl) ?_
        obtain ⟨hi8, h⟩ := gd_s h
        refine aS_P hx hb V hi8 dX4_playerAt_36 ?_
        obtain rfl := Option.some.inj h
        exact m_aretX hx hb hr hlk V (Nat.zero_le _) (Nat.zero_le _) rfl dX4_playerAt_37
      · replace h := ite_f hc7 h
        obtain rfl := Option.some.inj h
        exact m_throw (text := "no such player") hstk hx hb hown hlk hno Z V (by decide +kernel) (hts _ (List.mem_of_getElem? (i := 1) rfl)) (hts _ (List.mem_of_getElem? (i := 2) rfl)) (List.mem_of_getElem? (i := 36) rfl) (fun w h => hts w ((fun _ h => List.mem_cons_of_mem _ (List.mem_append_right _ h)) w h)) (mB_RX4_87) (mG_RX4_83_87) (hl.1.trans hml.symm) dX4_playerAt_21 dX4_playerAt_24 dX4_playerAt_25 dX4_playerAt_27 dX4_playerAt_30 (Nat.le_of_ble_eq_true rfl) (Nat.le_of_ble_eq_true rfl) (Nat.le_refl _) (Nat.le_refl _) (Nat.le_refl _) (Nat.le_refl _) rfl
-- X4_loanAt
def f_X4_loanAt (N : Nat) (σ : mSt) (a1 : Int32) : Option ((Nat ⊕ String) × mSt) := if a1 < 0 then some (.inr "java/lang/IndexOutOfBoundsException", σ) else if (σ 22 0) ≤ a1 then some (.inr "java/lang/IndexOutOfBoundsException", σ) else if a1 < 20 then if mIn a1 20 then some (.inl a1.toNatClampNeg, σ) else none else some (.inr "java/lang/IndexOutOfBoundsException", σ)
set_option maxHeartbeats 4000000 in
set_option maxRecDepth 100000 in
theorem c_X4_loanAt {l : Launch} {D : va_G} {y : Nat → ClassId} {ad : Nat → Nat} {N : Nat} {σ : mSt} {a1 : Int32} {q : (Nat ⊕ String) × mSt} (hstk : l.stackTraces = false) (h : f_X4_loanAt N σ a1 = some q) : mCX l yX4_loanAt wsX4_loanAt { frames := 6, cells := mOc q.1, slots := mOs q.1, locals := 82 } D y 80 ad mZ (mS y ad σ) [.ref (ad 0), .int a1] (mOr ad 12 q.1) (mS y ad q.2) (mOc q.1) (mOs q.1) := by
  refine m_startX (cc := cX4_loanAt) (maxL := 2) (ret := (some (.object "MinuteBank$Loan"))) (by decide) rfl (Nat.le_of_ble_eq_true rfl) (fun p e s m args below meth c ls hB hno V Z hl => ?_)
  obtain ⟨hx, hb, hml, hown, hts, hr, hlk⟩ := id hB
  have hl : lv_has ls 2 [(0, .ref (ad 0)), (1, .int a1)] := hl
  rw [f_X4_loanAt] at h
  refine lv_iload_n hx hb dX4_loanAt_0 rfl (lv_at hl 1 rfl) ?_
  refine lv_if_lt (tgt := 21) hx hb dX4_loanAt_1 (by decide) (fun hc5 => ?_) (fun hc5 => ?_)
  · replace h := ite_t hc5 h
    obtain rfl := Option.some.inj h
    exact m_throw (text := "no such loan") hstk hx hb hown hlk hno Z V (by decide +kernel) (hts _ (List.mem_of_getElem? (i := 1) rfl)) (hts _ (List.mem_of_getElem? (i := 2) rfl)) (List.mem_of_getElem? (i := 37) rfl) (fun w h => hts w ((fun _ h => List.mem_cons_of_mem _ (List.mem_append_right _ h)) w h)) (mB_RX4_87) (mG_RX4_83_87) (hl.1.trans hml.symm) dX4_loanAt_21 dX4_loanAt_24 dX4_loanAt_25 dX4_loanAt_27 dX4_loanAt_30 (Nat.le_of_ble_eq_true rfl) (Nat.le_of_ble_eq_true rfl) (Nat.le_refl _) (Nat.le_refl _) (Nat.le_refl _) (Nat.le_refl _) rfl
  · replace h := ite_f hc5 h
    refine lv_iload_n hx hb dX4_loanAt_4 rfl (lv_at hl 1 rfl) ?_
    refine lv_aload_n hx hb dX4_loanAt_5 rfl (lv_at hl 0 rfl) ?_
    refine gS_T hx hb hts hown (fun _ h => List.mem_cons_of_mem _ (List.mem_append_left _ (List.mem_append_right _ h))) V 1 22 (by decide) rfl (hts _ (List.mem_of_getElem? (i := 3) rfl)) dX4_loanAt_6 ?_
    refine lv_icmp_ge (tgt := 21) hx hb dX4_loanAt_9 (by decide) (fun hc6 => ?_) (fun hc6 => ?_)
    · replace h := ite_t hc6 h
      obtain rfl := Option.some.inj h
      exact m_throw (text := "no such loan") hstk hx hb hown hlk hno Z V (by decide +kernel) (hts _ (List.mem_of_getElem? (i := 1) rfl)) (hts _ (List.mem_of_getElem? (i := 2) rfl)) (List.mem_of_getElem? (i := 37) rfl) (fun w h => hts w ((fun _ h => List.mem_cons_of_mem _ (List.mem_append_right _ h)) w h)) (mB_RX4_87) (mG_RX4_83_87) (hl.1.trans hml.symm) dX4_loanAt_21 dX4_loanAt_24 dX4_loanAt_25 dX4_loanAt_27 dX4_loanAt_30 (Nat.le_of_ble_eq_true rfl) (Nat.le_of_ble_eq_true rfl) (Nat.le_refl _) (Nat.le_refl _) (Nat.le_refl _) (Nat.le_refl _) rfl
    · replace h := ite_f hc6 h
      refine lv_iload_n hx hb dX4_loanAt_12 rfl (lv_at hl 1 rfl) ?_
      refine lv_aload_n hx hb dX4_loanAt_13 rfl (lv_at hl 0 rfl) ?_
      refine rS_L hx hb hts hown (fun _ h => List.mem_cons_of_mem _ (List.mem_append_left _ (List.mem_append_right _ h))) V (hts _ (List.mem_of_getElem? (i := 4) rfl)) dX4_loanAt_14 ?_
      refine nS_L hx hb V dX4_loanAt_17 ?_
      refine lv_icmp_lt (tgt := 31) hx hb dX4_loanAt_18 (by decide) (fun hc7 => ?_) (fun hc7 => ?_)
      · replace h := ite_t hc7 h
        refine lv_aload_n hx hb dX4_loanAt_31 rfl (lv_at hl 0 rfl) ?_
        refine rS_L hx hb hts hown (fun _ h => List.mem_cons_of_mem _ (List.mem_append_left _ (List.mem_append_right _ h))) V (hts _ (List.mem_of_getElem? (i := 4) rfl)) dX4_loanAt_32 ?_
        refine lv_iload_n hx hb dX4_loanAt_35 rfl (lv_at hl 1 rfl) ?_
        obtain ⟨hi8, h⟩ := gd_s h
        refine aS_L hx hb V hi8 dX4_loanAt_36 ?_
        obtain rfl := Option.some.inj h
        exact m_aretX hx hb hr hlk V (Nat.zero_le _) (Nat.zero_le _) rfl dX4_loanAt_37
      · replace h := ite_f hc7 h
        obtain rfl := Option.some.inj h
        exact m_throw (text := "no such loan") hstk hx hb hown hlk hno Z V (by decide +kernel) (hts _ (List.mem_of_getElem? (i := 1) rfl)) (hts _ (List.mem_of_getElem? (i := 2) rfl)) (List.mem_of_getElem? (i := 37) rfl) (fun w h => hts w ((fun _ h => List.mem_cons_of_mem _ (List.mem_append_right _ h)) w h)) (mB_RX4_87) (mG_RX4_83_87) (hl.1.trans hml.symm) dX4_loanAt_21 dX4_loanAt_24 dX4_loanAt_25 dX4_loanAt_27 dX4_loanAt_30 (Nat.le_of_ble_eq_true rfl) (Nat.le_of_ble_eq_true rfl) (Nat.le_refl _) (Nat.le_refl _) (Nat.le_refl _) (Nat.le_refl _) rfl
-- X4_gameAt
def f_X4_gameAt (N : Nat) (σ : mSt) (a1 : Int32) : Option ((Nat ⊕ String) × mSt) := if a1 < 0 then some (.inr "java/lang/IndexOutOfBoundsException", σ) else if (σ 23 0) ≤ a1 then some (.inr "java/lang/IndexOutOfBoundsException", σ) else if a1 < 16 then if mIn a1 16 then some (.inl a1.toNatClampNeg, σ) else none else some (.inr "java/lang/IndexOutOfBoundsException", σ)
set_option maxHeartbeats 4000000 in
set_option maxRecDepth 100000 in
theorem c_X4_gameAt {l : Launch} {D : va_G} {y : Nat → ClassId} {ad : Nat → Nat} {N : Nat} {σ : mSt} {a1 : Int32} {q : (Nat ⊕ String) × mSt} (hstk : l.stackTraces = false) (h : f_X4_gameAt N σ a1 = some q) : mCX l yX4_gameAt wsX4_gameAt { frames := 6, cells := mOc q.1, slots := mOs q.1, locals := 82 } D y 80 ad mZ (mS y ad σ) [.ref (ad 0), .int a1] (mOr ad 32 q.1) (mS y ad q.2) (mOc q.1) (mOs q.1) := by
  refine m_startX (cc := cX4_gameAt) (maxL := 2) (ret := (some (.object "MinuteBank$Game"))) (by decide) rfl (Nat.le_of_ble_eq_true rfl) (fun p e s m args below meth c ls hB hno V Z hl => ?_)
  obtain ⟨hx, hb, hml, hown, hts, hr, hlk⟩ := id hB
  have hl : lv_has ls 2 [(0, .ref (ad 0)), (1, .int a1)] := hl
  rw [f_X4_gameAt] at h
  refine lv_iload_n hx hb dX4_gameAt_0 rfl (lv_at hl 1 rfl) ?_
  refine lv_if_lt (tgt := 21) hx hb dX4_gameAt_1 (by decide) (fun hc5 => ?_) (fun hc5 => ?_)
  · replace h := ite_t hc5 h
    obtain rfl := Option.some.inj h
    exact m_throw (text := "no such game") hstk hx hb hown hlk hno Z V (by decide +kernel) (hts _ (List.mem_of_getElem? (i := 1) rfl)) (hts _ (List.mem_of_getElem? (i := 2) rfl)) (List.mem_of_getElem? (i := 38) rfl) (fun w h => hts w ((fun _ h => List.mem_cons_of_mem _ (List.mem_append_right _ h)) w h)) (mB_RX4_87) (mG_RX4_83_87) (hl.1.trans hml.symm) dX4_gameAt_21 dX4_gameAt_24 dX4_gameAt_25 dX4_gameAt_27 dX4_gameAt_30 (Nat.le_of_ble_eq_true rfl) (Nat.le_of_ble_eq_true rfl) (Nat.le_refl _) (Nat.le_refl _) (Nat.le_refl _) (Nat.le_refl _) rfl
  · replace h := ite_f hc5 h
    refine lv_iload_n hx hb dX4_gameAt_4 rfl (lv_at hl 1 rfl) ?_
    refine lv_aload_n hx hb dX4_gameAt_5 rfl (lv_at hl 0 rfl) ?_
    refine gS_T hx hb hts hown (fun _ h => List.mem_cons_of_mem _ (List.mem_append_left _ (List.mem_append_right _ h))) V 2 23 (by decide) rfl (hts _ (List.mem_of_getElem? (i := 3) rfl)) dX4_gameAt_6 ?_
    refine lv_icmp_ge (tgt := 21) hx hb dX4_gameAt_9 (by decide) (fun hc6 => ?_) (fun hc6 => ?_)
    · replace h := ite_t hc6 h
      obtain rfl := Option.some.inj h
      exact m_throw (text := "no such game") hstk hx hb hown hlk hno Z V (by decide +kernel) (hts _ (List.mem_of_getElem? (i := 1) rfl)) (hts _ (List.mem_of_getElem? (i := 2) rfl)) (List.mem_of_getElem? (i := 38) rfl) (fun w h => hts w ((fun _ h => List.mem_cons_of_mem _ (List.mem_append_right _ h)) w h)) (mB_RX4_87) (mG_RX4_83_87) (hl.1.trans hml.symm) dX4_gameAt_21 dX4_gameAt_24 dX4_gameAt_25 dX4_gameAt_27 dX4_gameAt_30 (Nat.le_of_ble_eq_true rfl) (Nat.le_of_ble_eq_true rfl) (Nat.le_refl _) (Nat.le_refl _) (Nat.le_refl _) (Nat.le_refl _) rfl
    · replace h := ite_f hc6 h
      refine lv_iload_n hx hb dX4_gameAt_12 rfl (lv_at hl 1 rfl) ?_
      refine lv_aload_n hx hb dX4_gameAt_13 rfl (lv_at hl 0 rfl) ?_
      refine rS_G hx hb hts hown (fun _ h => List.mem_cons_of_mem _ (List.mem_append_left _ (List.mem_append_right _ h))) V (hts _ (List.mem_of_getElem? (i := 4) rfl)) dX4_gameAt_14 ?_
      refine nS_G hx hb V dX4_gameAt_17 ?_
      refine lv_icmp_lt (tgt := 31) hx hb dX4_gameAt_18 (by decide) (fun hc7 => ?_) (fun hc7 => ?_)
      · replace h := ite_t hc7 h
        refine lv_aload_n hx hb dX4_gameAt_31 rfl (lv_at hl 0 rfl) ?_
        refine rS_G hx hb hts hown (fun _ h => List.mem_cons_of_mem _ (List.mem_append_left _ (List.mem_append_right _ h))) V (hts _ (List.mem_of_getElem? (i := 4) rfl)) dX4_gameAt_32 ?_
        refine lv_iload_n hx hb dX4_gameAt_35 rfl (lv_at hl 1 rfl) ?_
        obtain ⟨hi8, h⟩ := gd_s h
        refine aS_G hx hb V hi8 dX4_gameAt_36 ?_
        obtain rfl := Option.some.inj h
        exact m_aretX hx hb hr hlk V (Nat.zero_le _) (Nat.zero_le _) rfl dX4_gameAt_37
      · replace h := ite_f hc7 h
        obtain rfl := Option.some.inj h
        exact m_throw (text := "no such game") hstk hx hb hown hlk hno Z V (by decide +kernel) (hts _ (List.mem_of_getElem? (i := 1) rfl)) (hts _ (List.mem_of_getElem? (i := 2) rfl)) (List.mem_of_getElem? (i := 38) rfl) (fun w h => hts w ((fun _ h => List.mem_cons_of_mem _ (List.mem_append_right _ h)) w h)) (mB_RX4_87) (mG_RX4_83_87) (hl.1.trans hml.symm) dX4_gameAt_21 dX4_gameAt_24 dX4_gameAt_25 dX4_gameAt_27 dX4_gameAt_30 (Nat.le_of_ble_eq_true rfl) (Nat.le_of_ble_eq_true rfl) (Nat.le_refl _) (Nat.le_refl _) (Nat.le_refl _) (Nat.le_refl _) rfl
-- X4_copy
def f_X4_copy_116 (N : Nat)   : Nat → mSt → mSt → Int32 → Option (Unit × mSt × mSt)
  | 0, _, _, _ => none
  | n + 1, σ, τ, v2 => if (τ 23 0) ≤ v2 then some ((), σ, τ) else (f_X4_gameAt N τ v2).bind fun q38 => oCase q38.1 (fun r39 => if r39 < 16 then (f_X4_gameAt N σ v2).bind fun q43 => oCase q43.1 (fun r44 => if r44 < 16 then (f_X0_copy N q43.2 q38.2 r39 r44).bind fun q48 => f_X4_copy_116 N n q48.2.1 q48.2.2 (v2 + 1) else none) (fun _ => none) else none) (fun _ => none)
set_option maxHeartbeats 4000000 in
set_option maxRecDepth 100000 in
theorem w_X4_copy_116 {l : Launch} {D : va_G} {y : Nat → ClassId} {ad : Nat → Nat} {N : Nat} {p : Program} {e : Env} {s : State} {m : MethodId} {args : Array Value} {below : List Frame} {meth : Method} {c : Code} (hstk : l.stackTraces = false) (Z : mZ (mFree 161 ad s.heap.size) s) (hB : mBd p s m args meth c cX4_copy 3 wsX4_copy RX4 none)  {q : Unit × mSt × mSt}   : ∀ (n : Nat) (σ τ : mSt) (v2 : Int32), f_X4_copy_116 N   n σ τ v2 = some q → ∀ (H : Heap) (locs : List Loc) (ls : Array Slot), mV D y (mFree 161 ad s.heap.size) s s.heap H locs 161 ad (mB y ad σ τ) → lv_has ls 3 [(0, .ref (ad (80 + 0))), (1, .ref (ad 0)), (2, .int v2)] → W p l e { frames := 7, cells := 0, slots := 0, locals := 103 } s m args below meth c H locs 0 0 (MQ below (mQ none D 161 ad (mB y ad q.2.1 q.2.2) s.heap.size) args s 0 0 (mFree 161 ad s.heap.size)) (F0 m 116 ls []) := by
  obtain ⟨hx, hb, hml, hown, hts, hr, hlk⟩ := id hB
  intro n
  induction n with
  | zero =>
    intro σ τ v2 h
    exact nomatch h
  | succ n ih =>
    intro σ τ v2 h H locs ls V hl
    rw [f_X4_copy_116] at h
    refine lv_iload_n hx hb dX4_copy_116 rfl (lv_at hl 2 rfl) ?_
    refine lv_aload_n hx hb dX4_copy_117 rfl (lv_at hl 0 rfl) ?_
    refine gC_T hx hb hts hown (fun _ h => List.mem_cons_of_mem _ (List.mem_append_left _ (List.mem_append_left _ (List.mem_append_left _ (List.mem_append_left _ (List.mem_append_left _ (List.mem_append_right _ h))))))) V 2 23 (by decide) rfl (hts _ (List.mem_of_getElem? (i := 7) rfl)) dX4_copy_118 ?_
    refine lv_icmp_ge (tgt := 143) hx hb dX4_copy_121 (by decide) (fun hc37 => ?_) (fun hc37 => ?_)
    · replace h := ite_t hc37 h
      obtain rfl := Option.some.inj h
      exact m_vret hx hb hr hlk V (Nat.zero_le _) (Nat.zero_le _) dX4_copy_143
    · replace h := ite_f hc37 h
      refine lv_aload_n hx hb dX4_copy_124 rfl (lv_at hl 0 rfl) ?_
      refine lv_iload_n hx hb dX4_copy_125 rfl (lv_at hl 2 rfl) ?_
      obtain ⟨q38, hq38, h⟩ := bd_s h
      cases ho41 : q38.1 with
      | inl r39 =>
        replace h := oCase_l ho41 h
        obtain ⟨hg42, h⟩ := gd_s h
        refine kCS (As := [.int v2]) (rest := []) ⟨hx, hb, hml, hown, hts⟩ Z V (mOr_plain ho41 (c_X4_gameAt (l := l) (D := D) (y := y) (ad := fun k => ad (80 + k)) hstk hq38)) (cwV 1 hts gX4_copy_X4_gameAt rfl rfl rfl (by decide +kernel) ⟨Nat.le_of_ble_eq_true rfl, Nat.le_of_ble_eq_true rfl⟩) (by omega) ((mB_1 y ad _ _ (by omega)).trans (mS_T y (fun k => ad (80 + k)) _)) rfl rfl hl.1 rfl (Nat.le_of_ble_eq_true rfl) ⟨Nat.zero_le _, Nat.zero_le _⟩ rfl dX4_copy_126 (fun H locs V => ?_)
        refine lv_aload_n hx hb dX4_copy_129 rfl (lv_at hl 1 rfl) ?_
        refine lv_iload_n hx hb dX4_copy_130 rfl (lv_at hl 2 rfl) ?_
        obtain ⟨q43, hq43, h⟩ := bd_s h
        cases ho46 : q43.1 with
        | inl r44 =>
          replace h := oCase_l ho46 h
          obtain ⟨hg47, h⟩ := gd_s h
          refine kBS (As := [.int v2]) (rest := [.ref (ad (80 + (32 + r39)))]) ⟨hx, hb, hml, hown, hts⟩ Z V (mOr_plain ho46 (c_X4_gameAt (l := l) (D := D) (y := y) (ad := ad) hstk hq43)) (cwV 1 hts gX4_copy_X4_gameAt rfl rfl rfl (by decide +kernel) ⟨Nat.le_of_ble_eq_true rfl, Nat.le_of_ble_eq_true rfl⟩) (by omega) ((mB_0 y ad _ _ (by omega)).trans (mS_T y ad _)) rfl rfl hl.1 rfl (Nat.le_of_ble_eq_true rfl) ⟨Nat.zero_le _, Nat.zero_le _⟩ rfl dX4_copy_131 (fun H locs V => ?_)
          obtain ⟨q48, hq48, h⟩ := bd_s h
          refine kBB (As := [.ref (ad (32 + r44))]) (rest := []) ⟨hx, hb, hml, hown, hts⟩ Z V (c_X0_copy (l := l) (D := D) (y := y) (ad := ad) hstk hq48) (cwV 1 hts gX4_copy_X0_copy rfl rfl rfl (by decide +kernel) ⟨Nat.le_of_ble_eq_true rfl, Nat.le_of_ble_eq_true rfl⟩) (by omega) ((mB_1 y ad _ _ (by omega)).trans (mS_G y (fun k => ad (80 + k)) _ hg42)) rfl rfl hl.1 rfl (Nat.le_of_ble_eq_true rfl) ⟨Nat.zero_le _, Nat.zero_le _⟩ rfl dX4_copy_134 (fun H locs V => ?_)
          refine lv_iinc (v := v2 + 1) (lv' := [(2, .int (v2 + 1)), (0, .ref (ad (80 + 0))), (1, .ref (ad 0))]) hx hb dX4_copy_137 hl (k := 2) rfl rfl (by decide) rfl (fun ls hl => ?_)
          refine lv_goto (tgt := 116) hx hb dX4_copy_140 (by decide) ?_
          exact ih _ _ _ h _ _ _ V (lv_sub hl [1, 2, 0] rfl)
        | inr e45 =>
          exact nomatch (oCase_r ho46 h)
      | inr e40 =>
        exact nomatch (oCase_r ho41 h)
def f_X4_copy_87 (N : Nat)   : Nat → mSt → mSt → Int32 → Option (Unit × mSt × mSt)
  | 0, _, _, _ => none
  | n + 1, σ, τ, v2 => if (τ 22 0) ≤ v2 then f_X4_copy_116 N N σ τ 0 else (f_X4_loanAt N τ v2).bind fun q50 => oCase q50.1 (fun r51 => if r51 < 20 then (f_X4_loanAt N σ v2).bind fun q55 => oCase q55.1 (fun r56 => if r56 < 20 then (f_X1_copy N q55.2 q50.2 r51 r56).bind fun q60 => f_X4_copy_87 N n q60.2.1 q60.2.2 (v2 + 1) else none) (fun _ => none) else none) (fun _ => none)
set_option maxHeartbeats 4000000 in
set_option maxRecDepth 100000 in
theorem w_X4_copy_87 {l : Launch} {D : va_G} {y : Nat → ClassId} {ad : Nat → Nat} {N : Nat} {p : Program} {e : Env} {s : State} {m : MethodId} {args : Array Value} {below : List Frame} {meth : Method} {c : Code} (hstk : l.stackTraces = false) (Z : mZ (mFree 161 ad s.heap.size) s) (hB : mBd p s m args meth c cX4_copy 3 wsX4_copy RX4 none)  {q : Unit × mSt × mSt}   : ∀ (n : Nat) (σ τ : mSt) (v2 : Int32), f_X4_copy_87 N   n σ τ v2 = some q → ∀ (H : Heap) (locs : List Loc) (ls : Array Slot), mV D y (mFree 161 ad s.heap.size) s s.heap H locs 161 ad (mB y ad σ τ) → lv_has ls 3 [(0, .ref (ad (80 + 0))), (1, .ref (ad 0)), (2, .int v2)] → W p l e { frames := 7, cells := 0, slots := 0, locals := 103 } s m args below meth c H locs 0 0 (MQ below (mQ none D 161 ad (mB y ad q.2.1 q.2.2) s.heap.size) args s 0 0 (mFree 161 ad s.heap.size)) (F0 m 87 ls []) := by
  obtain ⟨hx, hb, hml, hown, hts, hr, hlk⟩ := id hB
  intro n
  induction n with
  | zero =>
    intro σ τ v2 h
    exact nomatch h
  | succ n ih =>
    intro σ τ v2 h H locs ls V hl
    rw [f_X4_copy_87] at h
    refine lv_iload_n hx hb dX4_copy_87 rfl (lv_at hl 2 rfl) ?_
    refine lv_aload_n hx hb dX4_copy_88 rfl (lv_at hl 0 rfl) ?_
    refine gC_T hx hb hts hown (fun _ h => List.mem_cons_of_mem _ (List.mem_append_left _ (List.mem_append_left _ (List.mem_append_left _ (List.mem_append_left _ (List.mem_append_left _ (List.mem_append_right _ h))))))) V 1 22 (by decide) rfl (hts _ (List.mem_of_getElem? (i := 6) rfl)) dX4_copy_89 ?_
    refine lv_icmp_ge (tgt := 114) hx hb dX4_copy_92 (by decide) (fun hc49 => ?_) (fun hc49 => ?_)
    · replace h := ite_t hc49 h
      refine lv_iconst (v := 0) hx hb dX4_copy_114 (by decide) ?_
      refine lv_istore_n (lv' := [(2, .int 0), (0, .ref (ad (80 + 0))), (1, .ref (ad 0))]) hx hb dX4_copy_115 rfl hl (by decide) rfl (fun ls hl => ?_)
      exact w_X4_copy_116 hstk Z hB _ _ _ _ h _ _ _ V (lv_sub hl [1, 2, 0] rfl)
    · replace h := ite_f hc49 h
      refine lv_aload_n hx hb dX4_copy_95 rfl (lv_at hl 0 rfl) ?_
      refine lv_iload_n hx hb dX4_copy_96 rfl (lv_at hl 2 rfl) ?_
      obtain ⟨q50, hq50, h⟩ := bd_s h
      cases ho53 : q50.1 with
      | inl r51 =>
        replace h := oCase_l ho53 h
        obtain ⟨hg54, h⟩ := gd_s h
        refine kCS (As := [.int v2]) (rest := []) ⟨hx, hb, hml, hown, hts⟩ Z V (mOr_plain ho53 (c_X4_loanAt (l := l) (D := D) (y := y) (ad := fun k => ad (80 + k)) hstk hq50)) (cwV 1 hts gX4_copy_X4_loanAt rfl rfl rfl (by decide +kernel) ⟨Nat.le_of_ble_eq_true rfl, Nat.le_of_ble_eq_true rfl⟩) (by omega) ((mB_1 y ad _ _ (by omega)).trans (mS_T y (fun k => ad (80 + k)) _)) rfl rfl hl.1 rfl (Nat.le_of_ble_eq_true rfl) ⟨Nat.zero_le _, Nat.zero_le _⟩ rfl dX4_copy_97 (fun H locs V => ?_)
        refine lv_aload_n hx hb dX4_copy_100 rfl (lv_at hl 1 rfl) ?_
        refine lv_iload_n hx hb dX4_copy_101 rfl (lv_at hl 2 rfl) ?_
        obtain ⟨q55, hq55, h⟩ := bd_s h
        cases ho58 : q55.1 with
        | inl r56 =>
          replace h := oCase_l ho58 h
          obtain ⟨hg59, h⟩ := gd_s h
          refine kBS (As := [.int v2]) (rest := [.ref (ad (80 + (12 + r51)))]) ⟨hx, hb, hml, hown, hts⟩ Z V (mOr_plain ho58 (c_X4_loanAt (l := l) (D := D) (y := y) (ad := ad) hstk hq55)) (cwV 1 hts gX4_copy_X4_loanAt rfl rfl rfl (by decide +kernel) ⟨Nat.le_of_ble_eq_true rfl, Nat.le_of_ble_eq_true rfl⟩) (by omega) ((mB_0 y ad _ _ (by omega)).trans (mS_T y ad _)) rfl rfl hl.1 rfl (Nat.le_of_ble_eq_true rfl) ⟨Nat.zero_le _, Nat.zero_le _⟩ rfl dX4_copy_102 (fun H locs V => ?_)
          obtain ⟨q60, hq60, h⟩ := bd_s h
          refine kBB (As := [.ref (ad (12 + r56))]) (rest := []) ⟨hx, hb, hml, hown, hts⟩ Z V (c_X1_copy (l := l) (D := D) (y := y) (ad := ad) hstk hq60) (cwV 1 hts gX4_copy_X1_copy rfl rfl rfl (by decide +kernel) ⟨Nat.le_of_ble_eq_true rfl, Nat.le_of_ble_eq_true rfl⟩) (by omega) ((mB_1 y ad _ _ (by omega)).trans (mS_L y (fun k => ad (80 + k)) _ hg54)) rfl rfl hl.1 rfl (Nat.le_of_ble_eq_true rfl) ⟨Nat.zero_le _, Nat.zero_le _⟩ rfl dX4_copy_105 (fun H locs V => ?_)
          refine lv_iinc (v := v2 + 1) (lv' := [(2, .int (v2 + 1)), (0, .ref (ad (80 + 0))), (1, .ref (ad 0))]) hx hb dX4_copy_108 hl (k := 2) rfl rfl (by decide) rfl (fun ls hl => ?_)
          refine lv_goto (tgt := 87) hx hb dX4_copy_111 (by decide) ?_
          exact ih _ _ _ h _ _ _ V (lv_sub hl [1, 2, 0] rfl)
        | inr e57 =>
          exact nomatch (oCase_r ho58 h)
      | inr e52 =>
        exact nomatch (oCase_r ho53 h)
def f_X4_copy_58 (N : Nat)   : Nat → mSt → mSt → Int32 → Option (Unit × mSt × mSt)
  | 0, _, _, _ => none
  | n + 1, σ, τ, v2 => if (τ 21 0) ≤ v2 then f_X4_copy_87 N N σ τ 0 else (f_X4_playerAt N τ v2).bind fun q62 => oCase q62.1 (fun r63 => if r63 < 8 then (f_X4_playerAt N σ v2).bind fun q67 => oCase q67.1 (fun r68 => if r68 < 8 then (f_X2_copy N q67.2 q62.2 r63 r68).bind fun q72 => f_X4_copy_58 N n q72.2.1 q72.2.2 (v2 + 1) else none) (fun _ => none) else none) (fun _ => none)
set_option maxHeartbeats 4000000 in
set_option maxRecDepth 100000 in
theorem w_X4_copy_58 {l : Launch} {D : va_G} {y : Nat → ClassId} {ad : Nat → Nat} {N : Nat} {p : Program} {e : Env} {s : State} {m : MethodId} {args : Array Value} {below : List Frame} {meth : Method} {c : Code} (hstk : l.stackTraces = false) (Z : mZ (mFree 161 ad s.heap.size) s) (hB : mBd p s m args meth c cX4_copy 3 wsX4_copy RX4 none)  {q : Unit × mSt × mSt}   : ∀ (n : Nat) (σ τ : mSt) (v2 : Int32), f_X4_copy_58 N   n σ τ v2 = some q → ∀ (H : Heap) (locs : List Loc) (ls : Array Slot), mV D y (mFree 161 ad s.heap.size) s s.heap H locs 161 ad (mB y ad σ τ) → lv_has ls 3 [(0, .ref (ad (80 + 0))), (1, .ref (ad 0)), (2, .int v2)] → W p l e { frames := 7, cells := 0, slots := 0, locals := 103 } s m args below meth c H locs 0 0 (MQ below (mQ none D 161 ad (mB y ad q.2.1 q.2.2) s.heap.size) args s 0 0 (mFree 161 ad s.heap.size)) (F0 m 58 ls []) := by
  obtain ⟨hx, hb, hml, hown, hts, hr, hlk⟩ := id hB
  intro n
  induction n with
  | zero =>
    intro σ τ v2 h
    exact nomatch h
  | succ n ih =>
    intro σ τ v2 h H locs ls V hl
    rw [f_X4_copy_58] at h
    refine lv_iload_n hx hb dX4_copy_58 rfl (lv_at hl 2 rfl) ?_
    refine lv_aload_n hx hb dX4_copy_59 rfl (lv_at hl 0 rfl) ?_
    refine gC_T hx hb hts hown (fun _ h => List.mem_cons_of_mem _ (List.mem_append_left _ (List.mem_append_left _ (List.mem_append_left _ (List.mem_append_left _ (List.mem_append_left _ (List.mem_append_right _ h))))))) V 0 21 (by decide) rfl (hts _ (List.mem_of_getElem? (i := 5) rfl)) dX4_copy_60 ?_
    refine lv_icmp_ge (tgt := 85) hx hb dX4_copy_63 (by decide) (fun hc61 => ?_) (fun hc61 => ?_)
    · replace h := ite_t hc61 h
      refine lv_iconst (v := 0) hx hb dX4_copy_85 (by decide) ?_
      refine lv_istore_n (lv' := [(2, .int 0), (0, .ref (ad (80 + 0))), (1, .ref (ad 0))]) hx hb dX4_copy_86 rfl hl (by decide) rfl (fun ls hl => ?_)
      exact w_X4_copy_87 hstk Z hB _ _ _ _ h _ _ _ V (lv_sub hl [1, 2, 0] rfl)
    · replace h := ite_f hc61 h
      refine lv_aload_n hx hb dX4_copy_66 rfl (lv_at hl 0 rfl) ?_
      refine lv_iload_n hx hb dX4_copy_67 rfl (lv_at hl 2 rfl) ?_
      obtain ⟨q62, hq62, h⟩ := bd_s h
      cases ho65 : q62.1 with
      | inl r63 =>
        replace h := oCase_l ho65 h
        obtain ⟨hg66, h⟩ := gd_s h
        refine kCS (As := [.int v2]) (rest := []) ⟨hx, hb, hml, hown, hts⟩ Z V (mOr_plain ho65 (c_X4_playerAt (l := l) (D := D) (y := y) (ad := fun k => ad (80 + k)) hstk hq62)) (cwV 1 hts gX4_copy_X4_playerAt rfl rfl rfl (by decide +kernel) ⟨Nat.le_of_ble_eq_true rfl, Nat.le_of_ble_eq_true rfl⟩) (by omega) ((mB_1 y ad _ _ (by omega)).trans (mS_T y (fun k => ad (80 + k)) _)) rfl rfl hl.1 rfl (Nat.le_of_ble_eq_true rfl) ⟨Nat.zero_le _, Nat.zero_le _⟩ rfl dX4_copy_68 (fun H locs V => ?_)
        refine lv_aload_n hx hb dX4_copy_71 rfl (lv_at hl 1 rfl) ?_
        refine lv_iload_n hx hb dX4_copy_72 rfl (lv_at hl 2 rfl) ?_
        obtain ⟨q67, hq67, h⟩ := bd_s h
        cases ho70 : q67.1 with
        | inl r68 =>
          replace h := oCase_l ho70 h
          obtain ⟨hg71, h⟩ := gd_s h
          refine kBS (As := [.int v2]) (rest := [.ref (ad (80 + (4 + r63)))]) ⟨hx, hb, hml, hown, hts⟩ Z V (mOr_plain ho70 (c_X4_playerAt (l := l) (D := D) (y := y) (ad := ad) hstk hq67)) (cwV 1 hts gX4_copy_X4_playerAt rfl rfl rfl (by decide +kernel) ⟨Nat.le_of_ble_eq_true rfl, Nat.le_of_ble_eq_true rfl⟩) (by omega) ((mB_0 y ad _ _ (by omega)).trans (mS_T y ad _)) rfl rfl hl.1 rfl (Nat.le_of_ble_eq_true rfl) ⟨Nat.zero_le _, Nat.zero_le _⟩ rfl dX4_copy_73 (fun H locs V => ?_)
          obtain ⟨q72, hq72, h⟩ := bd_s h
          refine kBB (As := [.ref (ad (4 + r68))]) (rest := []) ⟨hx, hb, hml, hown, hts⟩ Z V (c_X2_copy (l := l) (D := D) (y := y) (ad := ad) hstk hq72) (cwV 1 hts gX4_copy_X2_copy rfl rfl rfl (by decide +kernel) ⟨Nat.le_of_ble_eq_true rfl, Nat.le_of_ble_eq_true rfl⟩) (by omega) ((mB_1 y ad _ _ (by omega)).trans (mS_P y (fun k => ad (80 + k)) _ hg66)) rfl rfl hl.1 rfl (Nat.le_of_ble_eq_true rfl) ⟨Nat.zero_le _, Nat.zero_le _⟩ rfl dX4_copy_76 (fun H locs V => ?_)
          refine lv_iinc (v := v2 + 1) (lv' := [(2, .int (v2 + 1)), (0, .ref (ad (80 + 0))), (1, .ref (ad 0))]) hx hb dX4_copy_79 hl (k := 2) rfl rfl (by decide) rfl (fun ls hl => ?_)
          refine lv_goto (tgt := 58) hx hb dX4_copy_82 (by decide) ?_
          exact ih _ _ _ h _ _ _ V (lv_sub hl [1, 2, 0] rfl)
        | inr e69 =>
          exact nomatch (oCase_r ho70 h)
      | inr e64 =>
        exact nomatch (oCase_r ho65 h)
def f_X4_copy (N : Nat) (σ τ : mSt)  : Option (Unit × mSt × mSt) := f_X4_copy_58 N N σ (mUp (mUp (mUp (mUp (mUp (mUp (mUp τ 24 0 (σ 24 0)) 25 0 (σ 25 0)) 26 0 (σ 26 0)) 27 0 (σ 27 0)) 21 0 (σ 21 0)) 22 0 (σ 22 0)) 23 0 (σ 23 0)) 0
set_option maxHeartbeats 4000000 in
set_option maxRecDepth 100000 in
theorem c_X4_copy {l : Launch} {D : va_G} {y : Nat → ClassId} {ad : Nat → Nat} {N : Nat} {σ τ : mSt}  {q : Unit × mSt × mSt} (hstk : l.stackTraces = false) (h : f_X4_copy N σ τ = some q) : mC l yX4_copy wsX4_copy { frames := 7, cells := 0, slots := 0, locals := 103 } D y 161 ad mZ (mB y ad σ τ) [.ref (ad (80 + 0)), .ref (ad 0)] none (mB y ad q.2.1 q.2.2) 0 0 := by
  refine m_start (cc := cX4_copy) (maxL := 3) (ret := none) (by decide) rfl (Nat.le_of_ble_eq_true rfl) (fun p e s m args below meth c ls hB _ V Z hl => ?_)
  obtain ⟨hx, hb, hml, hown, hts, hr, hlk⟩ := id hB
  have hl : lv_has ls 3 [(0, .ref (ad (80 + 0))), (1, .ref (ad 0))] := hl
  rw [f_X4_copy] at h
  refine lv_aload_n hx hb dX4_copy_0 rfl (lv_at hl 0 rfl) ?_
  refine lv_aload_n hx hb dX4_copy_1 rfl (lv_at hl 1 rfl) ?_
  refine gB_T hx hb hts hown (fun _ h => List.mem_cons_of_mem _ (List.mem_append_left _ (List.mem_append_left _ (List.mem_append_left _ (List.mem_append_left _ (List.mem_append_left _ (List.mem_append_right _ h))))))) V 3 24 (by decide) rfl (hts _ (List.mem_of_getElem? (i := 1) rfl)) dX4_copy_2 ?_
  refine pC_T hx hb hts hown (fun _ h => List.mem_cons_of_mem _ (List.mem_append_left _ (List.mem_append_left _ (List.mem_append_left _ (List.mem_append_left _ (List.mem_append_left _ (List.mem_append_right _ h))))))) V 3 24 (by decide) rfl (hts _ (List.mem_of_getElem? (i := 1) rfl)) dX4_copy_5 (fun H locs V => ?_)
  refine lv_aload_n hx hb dX4_copy_8 rfl (lv_at hl 0 rfl) ?_
  refine lv_aload_n hx hb dX4_copy_9 rfl (lv_at hl 1 rfl) ?_
  refine gB_T hx hb hts hown (fun _ h => List.mem_cons_of_mem _ (List.mem_append_left _ (List.mem_append_left _ (List.mem_append_left _ (List.mem_append_left _ (List.mem_append_left _ (List.mem_append_right _ h))))))) V 4 25 (by decide) rfl (hts _ (List.mem_of_getElem? (i := 2) rfl)) dX4_copy_10 ?_
  refine pC_T hx hb hts hown (fun _ h => List.mem_cons_of_mem _ (List.mem_append_left _ (List.mem_append_left _ (List.mem_append_left _ (List.mem_append_left _ (List.mem_append_left _ (List.mem_append_right _ h))))))) V 4 25 (by decide) rfl (hts _ (List.mem_of_getElem? (i := 2) rfl)) dX4_copy_13 (fun H locs V => ?_)
  refine lv_aload_n hx hb dX4_copy_16 rfl (lv_at hl 0 rfl) ?_
  refine lv_aload_n hx hb dX4_copy_17 rfl (lv_at hl 1 rfl) ?_
  refine gB_T hx hb hts hown (fun _ h => List.mem_cons_of_mem _ (List.mem_append_left _ (List.mem_append_left _ (List.mem_append_left _ (List.mem_append_left _ (List.mem_append_left _ (List.mem_append_right _ h))))))) V 5 26 (by decide) rfl (hts _ (List.mem_of_getElem? (i := 3) rfl)) dX4_copy_18 ?_
  refine pC_T hx hb hts hown (fun _ h => List.mem_cons_of_mem _ (List.mem_append_left _ (List.mem_append_left _ (List.mem_append_left _ (List.mem_append_left _ (List.mem_append_left _ (List.mem_append_right _ h))))))) V 5 26 (by decide) rfl (hts _ (List.mem_of_getElem? (i := 3) rfl)) dX4_copy_21 (fun H locs V => ?_)
  refine lv_aload_n hx hb dX4_copy_24 rfl (lv_at hl 0 rfl) ?_
  refine lv_aload_n hx hb dX4_copy_25 rfl (lv_at hl 1 rfl) ?_
  refine gB_T hx hb hts hown (fun _ h => List.mem_cons_of_mem _ (List.mem_append_left _ (List.mem_append_left _ (List.mem_append_left _ (List.mem_append_left _ (List.mem_append_left _ (List.mem_append_right _ h))))))) V 6 27 (by decide) rfl (hts _ (List.mem_of_getElem? (i := 4) rfl)) dX4_copy_26 ?_
  refine pC_T hx hb hts hown (fun _ h => List.mem_cons_of_mem _ (List.mem_append_left _ (List.mem_append_left _ (List.mem_append_left _ (List.mem_append_left _ (List.mem_append_left _ (List.mem_append_right _ h))))))) V 6 27 (by decide) rfl (hts _ (List.mem_of_getElem? (i := 4) rfl)) dX4_copy_29 (fun H locs V => ?_)
  refine lv_aload_n hx hb dX4_copy_32 rfl (lv_at hl 0 rfl) ?_
  refine lv_aload_n hx hb dX4_copy_33 rfl (lv_at hl 1 rfl) ?_
  refine gB_T hx hb hts hown (fun _ h => List.mem_cons_of_mem _ (List.mem_append_left _ (List.mem_append_left _ (List.mem_append_left _ (List.mem_append_left _ (List.mem_append_left _ (List.mem_append_right _ h))))))) V 0 21 (by decide) rfl (hts _ (List.mem_of_getElem? (i := 5) rfl)) dX4_copy_34 ?_
  refine pC_T hx hb hts hown (fun _ h => List.mem_cons_of_mem _ (List.mem_append_left _ (List.mem_append_left _ (List.mem_append_left _ (List.mem_append_left _ (List.mem_append_left _ (List.mem_append_right _ h))))))) V 0 21 (by decide) rfl (hts _ (List.mem_of_getElem? (i := 5) rfl)) dX4_copy_37 (fun H locs V => ?_)
  refine lv_aload_n hx hb dX4_copy_40 rfl (lv_at hl 0 rfl) ?_
  refine lv_aload_n hx hb dX4_copy_41 rfl (lv_at hl 1 rfl) ?_
  refine gB_T hx hb hts hown (fun _ h => List.mem_cons_of_mem _ (List.mem_append_left _ (List.mem_append_left _ (List.mem_append_left _ (List.mem_append_left _ (List.mem_append_left _ (List.mem_append_right _ h))))))) V 1 22 (by decide) rfl (hts _ (List.mem_of_getElem? (i := 6) rfl)) dX4_copy_42 ?_
  refine pC_T hx hb hts hown (fun _ h => List.mem_cons_of_mem _ (List.mem_append_left _ (List.mem_append_left _ (List.mem_append_left _ (List.mem_append_left _ (List.mem_append_left _ (List.mem_append_right _ h))))))) V 1 22 (by decide) rfl (hts _ (List.mem_of_getElem? (i := 6) rfl)) dX4_copy_45 (fun H locs V => ?_)
  refine lv_aload_n hx hb dX4_copy_48 rfl (lv_at hl 0 rfl) ?_
  refine lv_aload_n hx hb dX4_copy_49 rfl (lv_at hl 1 rfl) ?_
  refine gB_T hx hb hts hown (fun _ h => List.mem_cons_of_mem _ (List.mem_append_left _ (List.mem_append_left _ (List.mem_append_left _ (List.mem_append_left _ (List.mem_append_left _ (List.mem_append_right _ h))))))) V 2 23 (by decide) rfl (hts _ (List.mem_of_getElem? (i := 7) rfl)) dX4_copy_50 ?_
  refine pC_T hx hb hts hown (fun _ h => List.mem_cons_of_mem _ (List.mem_append_left _ (List.mem_append_left _ (List.mem_append_left _ (List.mem_append_left _ (List.mem_append_left _ (List.mem_append_right _ h))))))) V 2 23 (by decide) rfl (hts _ (List.mem_of_getElem? (i := 7) rfl)) dX4_copy_53 (fun H locs V => ?_)
  refine lv_iconst (v := 0) hx hb dX4_copy_56 (by decide) ?_
  refine lv_istore_n (lv' := [(2, .int 0), (0, .ref (ad (80 + 0))), (1, .ref (ad 0))]) hx hb dX4_copy_57 rfl hl (by decide) rfl (fun ls hl => ?_)
  exact w_X4_copy_58 hstk Z hB _ _ _ _ h _ _ _ V (lv_sub hl [1, 2, 0] rfl)
-- X4_secondsOut
def f_X4_secondsOut (N : Nat) (σ : mSt)  : Option (Int32 × mSt) := some (100000 - (σ 25 0), σ)
set_option maxHeartbeats 4000000 in
set_option maxRecDepth 100000 in
theorem c_X4_secondsOut {l : Launch} {D : va_G} {y : Nat → ClassId} {ad : Nat → Nat} {N : Nat} {σ : mSt}  {q : Int32 × mSt} (hstk : l.stackTraces = false) (h : f_X4_secondsOut N σ = some q) : mC l yX4_secondsOut wsX4_secondsOut { frames := 0, cells := 0, slots := 0, locals := 0 } D y 80 ad mZ (mS y ad σ) [.ref (ad 0)] (some (.int q.1)) (mS y ad q.2) 0 0 := by
  refine m_start (cc := cX4_secondsOut) (maxL := 1) (ret := (some .int)) (by decide) rfl (Nat.le_of_ble_eq_true rfl) (fun p e s m args below meth c ls hB _ V Z hl => ?_)
  obtain ⟨hx, hb, hml, hown, hts, hr, hlk⟩ := id hB
  have hl : lv_has ls 1 [(0, .ref (ad 0))] := hl
  rw [f_X4_secondsOut] at h
  refine lv_ldc (v := 100000) hx hb hown (hts _ (List.mem_of_getElem? (i := 1) rfl)) dX4_secondsOut_0 ?_
  refine lv_aload_n hx hb dX4_secondsOut_2 rfl (lv_at hl 0 rfl) ?_
  refine gS_T hx hb hts hown (fun _ h => List.mem_cons_of_mem _ (List.mem_append_right _ h)) V 4 25 (by decide) rfl (hts _ (List.mem_of_getElem? (i := 2) rfl)) dX4_secondsOut_3 ?_
  refine lv_isub hx hb dX4_secondsOut_6 ?_
  obtain rfl := Option.some.inj h
  exact m_iret hx hb hr hlk V (Nat.zero_le _) (Nat.zero_le _) dX4_secondsOut_7
-- X4_currentPrice
def f_X4_currentPrice (N : Nat) (σ : mSt)  : Option (Int32 × mSt) := (f_X4_secondsOut N σ).bind fun q2 => some (3 + ((mMax 0 q2.1) / 1000), q2.2)
set_option maxHeartbeats 4000000 in
set_option maxRecDepth 100000 in
theorem c_X4_currentPrice {l : Launch} {D : va_G} {y : Nat → ClassId} {ad : Nat → Nat} {N : Nat} {σ : mSt}  {q : Int32 × mSt} (hstk : l.stackTraces = false) (h : f_X4_currentPrice N σ = some q) : mC l yX4_currentPrice wsX4_currentPrice { frames := 1, cells := 0, slots := 0, locals := 20 } D y 80 ad mZ (mS y ad σ) [.ref (ad 0)] (some (.int q.1)) (mS y ad q.2) 0 0 := by
  refine m_start (cc := cX4_currentPrice) (maxL := 1) (ret := (some .int)) (by decide) rfl (Nat.le_of_ble_eq_true rfl) (fun p e s m args below meth c ls hB _ V Z hl => ?_)
  obtain ⟨hx, hb, hml, hown, hts, hr, hlk⟩ := id hB
  have hl : lv_has ls 1 [(0, .ref (ad 0))] := hl
  rw [f_X4_currentPrice] at h
  refine lv_iconst (v := 3) hx hb dX4_currentPrice_0 (by decide) ?_
  refine lv_iconst (v := 0) hx hb dX4_currentPrice_1 (by decide) ?_
  refine lv_aload_n hx hb dX4_currentPrice_2 rfl (lv_at hl 0 rfl) ?_
  obtain ⟨q2, hq2, h⟩ := bd_s h
  refine kSS (As := []) (rest := [.int 0, .int 3]) ⟨hx, hb, hml, hown, hts⟩ Z V (c_X4_secondsOut (l := l) (D := D) (y := y) (ad := ad) hstk hq2) (cwV 0 hts gX4_currentPrice_X4_secondsOut rfl rfl rfl (by decide +kernel) ⟨Nat.le_of_ble_eq_true rfl, Nat.le_of_ble_eq_true rfl⟩) (by omega) (mS_T y ad _) rfl rfl hl.1 rfl (Nat.le_of_ble_eq_true rfl) ⟨Nat.zero_le _, Nat.zero_le _⟩ rfl dX4_currentPrice_3 (fun H locs V => ?_)
  refine m_max hx hb hml hl.1 hown (hts _ (List.mem_of_getElem? (i := 1) rfl)) (hts _ (List.mem_of_getElem? (i := 2) rfl)) (hts _ (List.mem_of_getElem? (i := 3) rfl)) (hts _ (List.mem_of_getElem? (i := 4) rfl)) (Nat.le_of_ble_eq_true rfl) (Nat.le_of_ble_eq_true rfl) (Nat.zero_le _) (Nat.zero_le _) dX4_currentPrice_6 ?_
  refine lv_sipush (v := 1000) hx hb dX4_currentPrice_9 (by decide) ?_
  refine lv_idiv hx hb dX4_currentPrice_12 (by decide) ?_
  refine lv_iadd hx hb dX4_currentPrice_13 ?_
  obtain rfl := Option.some.inj h
  exact m_iret hx hb hr hlk V (Nat.zero_le _) (Nat.zero_le _) dX4_currentPrice_14
-- X4_handOut
def f_X4_handOut (N : Nat) (σ : mSt) (a1 : Nat) (a2 : Int32) : Option (Unit × mSt) := if a1 < 8 then some ((), (mUp (mUp σ 25 0 ((σ 25 0) - a2)) 1 a1 (((mUp σ 25 0 ((σ 25 0) - a2)) 1 a1) + a2))) else none
set_option maxHeartbeats 4000000 in
set_option maxRecDepth 100000 in
theorem c_X4_handOut {l : Launch} {D : va_G} {y : Nat → ClassId} {ad : Nat → Nat} {N : Nat} {σ : mSt} {a1 : Nat} {a2 : Int32} {q : Unit × mSt} (hstk : l.stackTraces = false) (h : f_X4_handOut N σ a1 a2 = some q) : mC l yX4_handOut wsX4_handOut { frames := 0, cells := 0, slots := 0, locals := 0 } D y 80 ad mZ (mS y ad σ) [.ref (ad 0), .ref (ad (4 + a1)), .int a2] none (mS y ad q.2) 0 0 := by
  refine m_start (cc := cX4_handOut) (maxL := 3) (ret := none) (by decide) rfl (Nat.le_of_ble_eq_true rfl) (fun p e s m args below meth c ls hB _ V Z hl => ?_)
  obtain ⟨hx, hb, hml, hown, hts, hr, hlk⟩ := id hB
  have hl : lv_has ls 3 [(0, .ref (ad 0)), (1, .ref (ad (4 + a1))), (2, .int a2)] := hl
  rw [f_X4_handOut] at h
  obtain ⟨hg2, h⟩ := gd_s h
  refine lv_aload_n hx hb dX4_handOut_0 rfl (lv_at hl 0 rfl) ?_
  refine lv_dup hx hb dX4_handOut_1 rfl ?_
  refine gS_T hx hb hts hown (fun _ h => List.mem_cons_of_mem _ (List.mem_append_left _ (List.mem_append_right _ h))) V 4 25 (by decide) rfl (hts _ (List.mem_of_getElem? (i := 1) rfl)) dX4_handOut_2 ?_
  refine lv_iload_n hx hb dX4_handOut_5 rfl (lv_at hl 2 rfl) ?_
  refine lv_isub hx hb dX4_handOut_6 ?_
  refine pS_T hx hb hts hown (fun _ h => List.mem_cons_of_mem _ (List.mem_append_left _ (List.mem_append_right _ h))) V 4 25 (by decide) rfl (hts _ (List.mem_of_getElem? (i := 1) rfl)) dX4_handOut_7 (fun H locs V => ?_)
  refine lv_aload_n hx hb dX4_handOut_10 rfl (lv_at hl 1 rfl) ?_
  refine lv_dup hx hb dX4_handOut_11 rfl ?_
  refine gS_P hx hb hts hown (fun _ h => List.mem_cons_of_mem _ (List.mem_append_right _ h)) V hg2 1 1 (by decide) rfl (hts _ (List.mem_of_getElem? (i := 2) rfl)) dX4_handOut_12 ?_
  refine lv_iload_n hx hb dX4_handOut_15 rfl (lv_at hl 2 rfl) ?_
  refine lv_iadd hx hb dX4_handOut_16 ?_
  refine pS_P hx hb hts hown (fun _ h => List.mem_cons_of_mem _ (List.mem_append_right _ h)) V hg2 1 1 (by decide) rfl (hts _ (List.mem_of_getElem? (i := 2) rfl)) dX4_handOut_17 (fun H locs V => ?_)
  obtain rfl := Option.some.inj h
  exact m_vret hx hb hr hlk V (Nat.zero_le _) (Nat.zero_le _) dX4_handOut_20
-- X4_gamesRunning
def f_X4_gamesRunning_13 (N : Nat)   : Nat → mSt → Int32 → Int32 → Option (Int32 × mSt)
  | 0, _, _, _ => none
  | n + 1, σ, v1, v4 => if 16 ≤ v4 then some (v1, σ) else if mIn v4 16 then (f_X0_runs N σ v4.toNatClampNeg).bind fun q7 => if q7.1 = 0 then f_X4_gamesRunning_13 N n q7.2 v1 (v4 + 1) else f_X4_gamesRunning_13 N n q7.2 (v1 + 1) (v4 + 1) else none
set_option maxHeartbeats 4000000 in
set_option maxRecDepth 100000 in
theorem w_X4_gamesRunning_13 {l : Launch} {D : va_G} {y : Nat → ClassId} {ad : Nat → Nat} {N : Nat} {p : Program} {e : Env} {s : State} {m : MethodId} {args : Array Value} {below : List Frame} {meth : Method} {c : Code} (hstk : l.stackTraces = false) (Z : mZ (mFree 80 ad s.heap.size) s) (hB : mBd p s m args meth c cX4_gamesRunning 6 wsX4_gamesRunning RX4 (some .int))  {q : Int32 × mSt}   : ∀ (n : Nat) (σ : mSt) (v1 : Int32) (v4 : Int32), f_X4_gamesRunning_13 N   n σ v1 v4 = some q → ∀ (H : Heap) (locs : List Loc) (ls : Array Slot), mV D y (mFree 80 ad s.heap.size) s s.heap H locs 80 ad (mS y ad σ) → lv_has ls 6 [(1, .int v1), (2, .ref (ad 3)), (3, .int 16), (4, .int v4)] → W p l e { frames := 1, cells := 0, slots := 0, locals := 20 } s m args below meth c H locs 0 0 (MQ below (mQ (some (.int q.1)) D 80 ad (mS y ad q.2) s.heap.size) args s 0 0 (mFree 80 ad s.heap.size)) (F0 m 13 ls []) := by
  obtain ⟨hx, hb, hml, hown, hts, hr, hlk⟩ := id hB
  intro n
  induction n with
  | zero =>
    intro σ v1 v4 h
    exact nomatch h
  | succ n ih =>
    intro σ v1 v4 h H locs ls V hl
    rw [f_X4_gamesRunning_13] at h
    refine lv_iload hx hb dX4_gamesRunning_13 (lv_at hl 3 rfl) ?_
    refine lv_iload_n hx hb dX4_gamesRunning_15 rfl (lv_at hl 2 rfl) ?_
    refine lv_icmp_ge (tgt := 42) hx hb dX4_gamesRunning_16 (by decide) (fun hc5 => ?_) (fun hc5 => ?_)
    · replace h := ite_t hc5 h
      refine lv_iload_n hx hb dX4_gamesRunning_42 rfl (lv_at hl 0 rfl) ?_
      obtain rfl := Option.some.inj h
      exact m_iret hx hb hr hlk V (Nat.zero_le _) (Nat.zero_le _) dX4_gamesRunning_43
    · replace h := ite_f hc5 h
      refine lv_aload_n hx hb dX4_gamesRunning_19 rfl (lv_at hl 1 rfl) ?_
      refine lv_iload hx hb dX4_gamesRunning_20 (lv_at hl 3 rfl) ?_
      obtain ⟨hi6, h⟩ := gd_s h
      refine aS_G hx hb V hi6 dX4_gamesRunning_22 ?_
      refine lv_astore (lv' := [(5, .ref (ad (32 + v4.toNatClampNeg))), (1, .int v1), (2, .ref (ad 3)), (3, .int 16), (4, .int v4)]) hx hb dX4_gamesRunning_23 hl (by decide) rfl (fun ls hl => ?_)
      refine lv_aload hx hb dX4_gamesRunning_25 (lv_at hl 0 rfl) ?_
      obtain ⟨q7, hq7, h⟩ := bd_s h
      refine kSS (As := []) (rest := []) ⟨hx, hb, hml, hown, hts⟩ Z V (c_X0_runs (l := l) (D := D) (y := y) (ad := ad) hstk hq7) (cwV 0 hts gX4_gamesRunning_X0_runs rfl rfl rfl (by decide +kernel) ⟨Nat.le_of_ble_eq_true rfl, Nat.le_of_ble_eq_true rfl⟩) (by omega) (mS_G y ad _ hi6.2) rfl rfl hl.1 rfl (Nat.le_of_ble_eq_true rfl) ⟨Nat.zero_le _, Nat.zero_le _⟩ rfl dX4_gamesRunning_27 (fun H locs V => ?_)
      refine lv_if_eq (tgt := 36) hx hb dX4_gamesRunning_30 (by decide) (fun hc8 => ?_) (fun hc8 => ?_)
      · replace h := ite_t hc8 h
        refine lv_iinc (v := v4 + 1) (lv' := [(4, .int (v4 + 1)), (5, .ref (ad (32 + v4.toNatClampNeg))), (1, .int v1), (2, .ref (ad 3)), (3, .int 16)]) hx hb dX4_gamesRunning_36 hl (k := 4) rfl rfl (by decide) rfl (fun ls hl => ?_)
        refine lv_goto (tgt := 13) hx hb dX4_gamesRunning_39 (by decide) ?_
        exact ih _ _ _ h _ _ _ V (lv_sub hl [2, 3, 4, 0] rfl)
      · replace h := ite_f hc8 h
        refine lv_iinc (v := v1 + 1) (lv' := [(1, .int (v1 + 1)), (5, .ref (ad (32 + v4.toNatClampNeg))), (2, .ref (ad 3)), (3, .int 16), (4, .int v4)]) hx hb dX4_gamesRunning_33 hl (k := 1) rfl rfl (by decide) rfl (fun ls hl => ?_)
        refine lv_iinc (v := v4 + 1) (lv' := [(4, .int (v4 + 1)), (1, .int (v1 + 1)), (5, .ref (ad (32 + v4.toNatClampNeg))), (2, .ref (ad 3)), (3, .int 16)]) hx hb dX4_gamesRunning_36 hl (k := 4) rfl rfl (by decide) rfl (fun ls hl => ?_)
        refine lv_goto (tgt := 13) hx hb dX4_gamesRunning_39 (by decide) ?_
        exact ih _ _ _ h _ _ _ V (lv_sub hl [1, 3, 4, 0] rfl)
def f_X4_gamesRunning (N : Nat) (σ : mSt)  : Option (Int32 × mSt) := f_X4_gamesRunning_13 N N σ 0 0
set_option maxHeartbeats 4000000 in
set_option maxRecDepth 100000 in
theorem c_X4_gamesRunning {l : Launch} {D : va_G} {y : Nat → ClassId} {ad : Nat → Nat} {N : Nat} {σ : mSt}  {q : Int32 × mSt} (hstk : l.stackTraces = false) (h : f_X4_gamesRunning N σ = some q) : mC l yX4_gamesRunning wsX4_gamesRunning { frames := 1, cells := 0, slots := 0, locals := 20 } D y 80 ad mZ (mS y ad σ) [.ref (ad 0)] (some (.int q.1)) (mS y ad q.2) 0 0 := by
  refine m_start (cc := cX4_gamesRunning) (maxL := 6) (ret := (some .int)) (by decide) rfl (Nat.le_of_ble_eq_true rfl) (fun p e s m args below meth c ls hB _ V Z hl => ?_)
  obtain ⟨hx, hb, hml, hown, hts, hr, hlk⟩ := id hB
  have hl : lv_has ls 6 [(0, .ref (ad 0))] := hl
  rw [f_X4_gamesRunning] at h
  refine lv_iconst (v := 0) hx hb dX4_gamesRunning_0 (by decide) ?_
  refine lv_istore_n (lv' := [(1, .int 0), (0, .ref (ad 0))]) hx hb dX4_gamesRunning_1 rfl hl (by decide) rfl (fun ls hl => ?_)
  refine lv_aload_n hx hb dX4_gamesRunning_2 rfl (lv_at hl 1 rfl) ?_
  refine rS_G hx hb hts hown (fun _ h => List.mem_cons_of_mem _ (List.mem_append_left _ (List.mem_append_right _ h))) V (hts _ (List.mem_of_getElem? (i := 1) rfl)) dX4_gamesRunning_3 ?_
  refine lv_astore_n (lv' := [(2, .ref (ad 3)), (1, .int 0), (0, .ref (ad 0))]) hx hb dX4_gamesRunning_6 rfl hl (by decide) rfl (fun ls hl => ?_)
  refine lv_aload_n hx hb dX4_gamesRunning_7 rfl (lv_at hl 0 rfl) ?_
  refine nS_G hx hb V dX4_gamesRunning_8 ?_
  refine lv_istore_n (lv' := [(3, .int 16), (2, .ref (ad 3)), (1, .int 0), (0, .ref (ad 0))]) hx hb dX4_gamesRunning_9 rfl hl (by decide) rfl (fun ls hl => ?_)
  refine lv_iconst (v := 0) hx hb dX4_gamesRunning_10 (by decide) ?_
  refine lv_istore (lv' := [(4, .int 0), (3, .int 16), (2, .ref (ad 3)), (1, .int 0), (0, .ref (ad 0))]) hx hb dX4_gamesRunning_11 hl (by decide) rfl (fun ls hl => ?_)
  exact w_X4_gamesRunning_13 hstk Z hB _ _ _ _ h _ _ _ V (lv_sub hl [3, 2, 1, 0] rfl)
-- X4_gamesRunningOf
def f_X4_gamesRunningOf_14 (N : Nat) (a1 : Int32)  : Nat → mSt → Int32 → Int32 → Option (Int32 × mSt)
  | 0, _, _, _ => none
  | n + 1, σ, v2, v5 => if 16 ≤ v5 then some (v2, σ) else if mIn v5 16 then (f_X0_runs N σ v5.toNatClampNeg).bind fun q9 => if q9.1 = 0 then f_X4_gamesRunningOf_14 N a1 n q9.2 v2 (v5 + 1) else (f_X0_isPlayedBy N q9.2 v5.toNatClampNeg a1).bind fun q11 => if q11.1 = 0 then f_X4_gamesRunningOf_14 N a1 n q11.2 v2 (v5 + 1) else f_X4_gamesRunningOf_14 N a1 n q11.2 (v2 + 1) (v5 + 1) else none
set_option maxHeartbeats 4000000 in
set_option maxRecDepth 100000 in
theorem w_X4_gamesRunningOf_14 {l : Launch} {D : va_G} {y : Nat → ClassId} {ad : Nat → Nat} {N : Nat} {p : Program} {e : Env} {s : State} {m : MethodId} {args : Array Value} {below : List Frame} {meth : Method} {c : Code} (hstk : l.stackTraces = false) (Z : mZ (mFree 80 ad s.heap.size) s) (hB : mBd p s m args meth c cX4_gamesRunningOf 7 wsX4_gamesRunningOf RX4 (some .int)) {a1 : Int32} {q : Int32 × mSt}   : ∀ (n : Nat) (σ : mSt) (v2 : Int32) (v5 : Int32), f_X4_gamesRunningOf_14 N a1  n σ v2 v5 = some q → ∀ (H : Heap) (locs : List Loc) (ls : Array Slot), mV D y (mFree 80 ad s.heap.size) s s.heap H locs 80 ad (mS y ad σ) → lv_has ls 7 [(1, .int a1), (2, .int v2), (3, .ref (ad 3)), (4, .int 16), (5, .int v5)] → W p l e { frames := 1, cells := 0, slots := 0, locals := 21 } s m args below meth c H locs 0 0 (MQ below (mQ (some (.int q.1)) D 80 ad (mS y ad q.2) s.heap.size) args s 0 0 (mFree 80 ad s.heap.size)) (F0 m 14 ls []) := by
  obtain ⟨hx, hb, hml, hown, hts, hr, hlk⟩ := id hB
  intro n
  induction n with
  | zero =>
    intro σ v2 v5 h
    exact nomatch h
  | succ n ih =>
    intro σ v2 v5 h H locs ls V hl
    rw [f_X4_gamesRunningOf_14] at h
    refine lv_iload hx hb dX4_gamesRunningOf_14 (lv_at hl 4 rfl) ?_
    refine lv_iload hx hb dX4_gamesRunningOf_16 (lv_at hl 3 rfl) ?_
    refine lv_icmp_ge (tgt := 53) hx hb dX4_gamesRunningOf_18 (by decide) (fun hc7 => ?_) (fun hc7 => ?_)
    · replace h := ite_t hc7 h
      refine lv_iload_n hx hb dX4_gamesRunningOf_53 rfl (lv_at hl 1 rfl) ?_
      obtain rfl := Option.some.inj h
      exact m_iret hx hb hr hlk V (Nat.zero_le _) (Nat.zero_le _) dX4_gamesRunningOf_54
    · replace h := ite_f hc7 h
      refine lv_aload_n hx hb dX4_gamesRunningOf_21 rfl (lv_at hl 2 rfl) ?_
      refine lv_iload hx hb dX4_gamesRunningOf_22 (lv_at hl 4 rfl) ?_
      obtain ⟨hi8, h⟩ := gd_s h
      refine aS_G hx hb V hi8 dX4_gamesRunningOf_24 ?_
      refine lv_astore (lv' := [(6, .ref (ad (32 + v5.toNatClampNeg))), (1, .int a1), (2, .int v2), (3, .ref (ad 3)), (4, .int 16), (5, .int v5)]) hx hb dX4_gamesRunningOf_25 hl (by decide) rfl (fun ls hl => ?_)
      refine lv_aload hx hb dX4_gamesRunningOf_27 (lv_at hl 0 rfl) ?_
      obtain ⟨q9, hq9, h⟩ := bd_s h
      refine kSS (As := []) (rest := []) ⟨hx, hb, hml, hown, hts⟩ Z V (c_X0_runs (l := l) (D := D) (y := y) (ad := ad) hstk hq9) (cwV 0 hts gX4_gamesRunningOf_X0_runs rfl rfl rfl (by decide +kernel) ⟨Nat.le_of_ble_eq_true rfl, Nat.le_of_ble_eq_true rfl⟩) (by omega) (mS_G y ad _ hi8.2) rfl rfl hl.1 rfl (Nat.le_of_ble_eq_true rfl) ⟨Nat.zero_le _, Nat.zero_le _⟩ rfl dX4_gamesRunningOf_29 (fun H locs V => ?_)
      refine lv_if_eq (tgt := 47) hx hb dX4_gamesRunningOf_32 (by decide) (fun hc10 => ?_) (fun hc10 => ?_)
      · replace h := ite_t hc10 h
        refine lv_iinc (v := v5 + 1) (lv' := [(5, .int (v5 + 1)), (6, .ref (ad (32 + v5.toNatClampNeg))), (1, .int a1), (2, .int v2), (3, .ref (ad 3)), (4, .int 16)]) hx hb dX4_gamesRunningOf_47 hl (k := 5) rfl rfl (by decide) rfl (fun ls hl => ?_)
        refine lv_goto (tgt := 14) hx hb dX4_gamesRunningOf_50 (by decide) ?_
        exact ih _ _ _ h _ _ _ V (lv_sub hl [2, 3, 4, 5, 0] rfl)
      · replace h := ite_f hc10 h
        refine lv_aload hx hb dX4_gamesRunningOf_35 (lv_at hl 0 rfl) ?_
        refine lv_iload_n hx hb dX4_gamesRunningOf_37 rfl (lv_at hl 1 rfl) ?_
        obtain ⟨q11, hq11, h⟩ := bd_s h
        refine kSS (As := [.int a1]) (rest := []) ⟨hx, hb, hml, hown, hts⟩ Z V (c_X0_isPlayedBy (l := l) (D := D) (y := y) (ad := ad) hstk hq11) (cwV 1 hts gX4_gamesRunningOf_X0_isPlayedBy rfl rfl rfl (by decide +kernel) ⟨Nat.le_of_ble_eq_true rfl, Nat.le_of_ble_eq_true rfl⟩) (by omega) (mS_G y ad _ hi8.2) rfl rfl hl.1 rfl (Nat.le_of_ble_eq_true rfl) ⟨Nat.zero_le _, Nat.zero_le _⟩ rfl dX4_gamesRunningOf_38 (fun H locs V => ?_)
        refine lv_if_eq (tgt := 47) hx hb dX4_gamesRunningOf_41 (by decide) (fun hc12 => ?_) (fun hc12 => ?_)
        · replace h := ite_t hc12 h
          refine lv_iinc (v := v5 + 1) (lv' := [(5, .int (v5 + 1)), (6, .ref (ad (32 + v5.toNatClampNeg))), (1, .int a1), (2, .int v2), (3, .ref (ad 3)), (4, .int 16)]) hx hb dX4_gamesRunningOf_47 hl (k := 5) rfl rfl (by decide) rfl (fun ls hl => ?_)
          refine lv_goto (tgt := 14) hx hb dX4_gamesRunningOf_50 (by decide) ?_
          exact ih _ _ _ h _ _ _ V (lv_sub hl [2, 3, 4, 5, 0] rfl)
        · replace h := ite_f hc12 h
          refine lv_iinc (v := v2 + 1) (lv' := [(2, .int (v2 + 1)), (6, .ref (ad (32 + v5.toNatClampNeg))), (1, .int a1), (3, .ref (ad 3)), (4, .int 16), (5, .int v5)]) hx hb dX4_gamesRunningOf_44 hl (k := 2) rfl rfl (by decide) rfl (fun ls hl => ?_)
          refine lv_iinc (v := v5 + 1) (lv' := [(5, .int (v5 + 1)), (2, .int (v2 + 1)), (6, .ref (ad (32 + v5.toNatClampNeg))), (1, .int a1), (3, .ref (ad 3)), (4, .int 16)]) hx hb dX4_gamesRunningOf_47 hl (k := 5) rfl rfl (by decide) rfl (fun ls hl => ?_)
          refine lv_goto (tgt := 14) hx hb dX4_gamesRunningOf_50 (by decide) ?_
          exact ih _ _ _ h _ _ _ V (lv_sub hl [3, 1, 4, 5, 0] rfl)
def f_X4_gamesRunningOf (N : Nat) (σ : mSt) (a1 : Int32) : Option (Int32 × mSt) := f_X4_gamesRunningOf_14 N a1 N σ 0 0
set_option maxHeartbeats 4000000 in
set_option maxRecDepth 100000 in
theorem c_X4_gamesRunningOf {l : Launch} {D : va_G} {y : Nat → ClassId} {ad : Nat → Nat} {N : Nat} {σ : mSt} {a1 : Int32} {q : Int32 × mSt} (hstk : l.stackTraces = false) (h : f_X4_gamesRunningOf N σ a1 = some q) : mC l yX4_gamesRunningOf wsX4_gamesRunningOf { frames := 1, cells := 0, slots := 0, locals := 21 } D y 80 ad mZ (mS y ad σ) [.ref (ad 0), .int a1] (some (.int q.1)) (mS y ad q.2) 0 0 := by
  refine m_start (cc := cX4_gamesRunningOf) (maxL := 7) (ret := (some .int)) (by decide) rfl (Nat.le_of_ble_eq_true rfl) (fun p e s m args below meth c ls hB _ V Z hl => ?_)
  obtain ⟨hx, hb, hml, hown, hts, hr, hlk⟩ := id hB
  have hl : lv_has ls 7 [(0, .ref (ad 0)), (1, .int a1)] := hl
  rw [f_X4_gamesRunningOf] at h
  refine lv_iconst (v := 0) hx hb dX4_gamesRunningOf_0 (by decide) ?_
  refine lv_istore_n (lv' := [(2, .int 0), (0, .ref (ad 0)), (1, .int a1)]) hx hb dX4_gamesRunningOf_1 rfl hl (by decide) rfl (fun ls hl => ?_)
  refine lv_aload_n hx hb dX4_gamesRunningOf_2 rfl (lv_at hl 1 rfl) ?_
  refine rS_G hx hb hts hown (fun _ h => List.mem_cons_of_mem _ (List.mem_append_left _ (List.mem_append_left _ (List.mem_append_right _ h)))) V (hts _ (List.mem_of_getElem? (i := 1) rfl)) dX4_gamesRunningOf_3 ?_
  refine lv_astore_n (lv' := [(3, .ref (ad 3)), (2, .int 0), (0, .ref (ad 0)), (1, .int a1)]) hx hb dX4_gamesRunningOf_6 rfl hl (by decide) rfl (fun ls hl => ?_)
  refine lv_aload_n hx hb dX4_gamesRunningOf_7 rfl (lv_at hl 0 rfl) ?_
  refine nS_G hx hb V dX4_gamesRunningOf_8 ?_
  refine lv_istore (lv' := [(4, .int 16), (3, .ref (ad 3)), (2, .int 0), (0, .ref (ad 0)), (1, .int a1)]) hx hb dX4_gamesRunningOf_9 hl (by decide) rfl (fun ls hl => ?_)
  refine lv_iconst (v := 0) hx hb dX4_gamesRunningOf_11 (by decide) ?_
  refine lv_istore (lv' := [(5, .int 0), (4, .int 16), (3, .ref (ad 3)), (2, .int 0), (0, .ref (ad 0)), (1, .int a1)]) hx hb dX4_gamesRunningOf_12 hl (by decide) rfl (fun ls hl => ?_)
  exact w_X4_gamesRunningOf_14 hstk Z hB _ _ _ _ h _ _ _ V (lv_sub hl [5, 3, 2, 1, 0] rfl)
-- X4_openLoans
def f_X4_openLoans_13 (N : Nat)   : Nat → mSt → Int32 → Int32 → Option (Int32 × mSt)
  | 0, _, _, _ => none
  | n + 1, σ, v1, v4 => if 20 ≤ v4 then some (v1, σ) else if mIn v4 20 then if (σ 9 v4.toNatClampNeg) = 0 then f_X4_openLoans_13 N n σ (v1 + 1) (v4 + 1) else f_X4_openLoans_13 N n σ v1 (v4 + 1) else none
set_option maxHeartbeats 4000000 in
set_option maxRecDepth 100000 in
theorem w_X4_openLoans_13 {l : Launch} {D : va_G} {y : Nat → ClassId} {ad : Nat → Nat} {N : Nat} {p : Program} {e : Env} {s : State} {m : MethodId} {args : Array Value} {below : List Frame} {meth : Method} {c : Code} (hstk : l.stackTraces = false) (Z : mZ (mFree 80 ad s.heap.size) s) (hB : mBd p s m args meth c cX4_openLoans 6 wsX4_openLoans RX4 (some .int))  {q : Int32 × mSt}   : ∀ (n : Nat) (σ : mSt) (v1 : Int32) (v4 : Int32), f_X4_openLoans_13 N   n σ v1 v4 = some q → ∀ (H : Heap) (locs : List Loc) (ls : Array Slot), mV D y (mFree 80 ad s.heap.size) s s.heap H locs 80 ad (mS y ad σ) → lv_has ls 6 [(1, .int v1), (2, .ref (ad 2)), (3, .int 20), (4, .int v4)] → W p l e { frames := 0, cells := 0, slots := 0, locals := 0 } s m args below meth c H locs 0 0 (MQ below (mQ (some (.int q.1)) D 80 ad (mS y ad q.2) s.heap.size) args s 0 0 (mFree 80 ad s.heap.size)) (F0 m 13 ls []) := by
  obtain ⟨hx, hb, hml, hown, hts, hr, hlk⟩ := id hB
  intro n
  induction n with
  | zero =>
    intro σ v1 v4 h
    exact nomatch h
  | succ n ih =>
    intro σ v1 v4 h H locs ls V hl
    rw [f_X4_openLoans_13] at h
    refine lv_iload hx hb dX4_openLoans_13 (lv_at hl 3 rfl) ?_
    refine lv_iload_n hx hb dX4_openLoans_15 rfl (lv_at hl 2 rfl) ?_
    refine lv_icmp_ge (tgt := 42) hx hb dX4_openLoans_16 (by decide) (fun hc4 => ?_) (fun hc4 => ?_)
    · replace h := ite_t hc4 h
      refine lv_iload_n hx hb dX4_openLoans_42 rfl (lv_at hl 0 rfl) ?_
      obtain rfl := Option.some.inj h
      exact m_iret hx hb hr hlk V (Nat.zero_le _) (Nat.zero_le _) dX4_openLoans_43
    · replace h := ite_f hc4 h
      refine lv_aload_n hx hb dX4_openLoans_19 rfl (lv_at hl 1 rfl) ?_
      refine lv_iload hx hb dX4_openLoans_20 (lv_at hl 3 rfl) ?_
      obtain ⟨hi5, h⟩ := gd_s h
      refine aS_L hx hb V hi5 dX4_openLoans_22 ?_
      refine lv_astore (lv' := [(5, .ref (ad (12 + v4.toNatClampNeg))), (1, .int v1), (2, .ref (ad 2)), (3, .int 20), (4, .int v4)]) hx hb dX4_openLoans_23 hl (by decide) rfl (fun ls hl => ?_)
      refine lv_aload hx hb dX4_openLoans_25 (lv_at hl 0 rfl) ?_
      refine gS_L hx hb hts hown (fun _ h => List.mem_cons_of_mem _ (List.mem_append_right _ h)) V hi5.2 4 9 (by decide) rfl (hts _ (List.mem_of_getElem? (i := 2) rfl)) dX4_openLoans_27 ?_
      refine lv_if_ne (tgt := 36) hx hb dX4_openLoans_30 (by decide) (fun hc6 => ?_) (fun hc6 => ?_)
      · replace h := ite_f hc6 h
        refine lv_iinc (v := v4 + 1) (lv' := [(4, .int (v4 + 1)), (5, .ref (ad (12 + v4.toNatClampNeg))), (1, .int v1), (2, .ref (ad 2)), (3, .int 20)]) hx hb dX4_openLoans_36 hl (k := 4) rfl rfl (by decide) rfl (fun ls hl => ?_)
        refine lv_goto (tgt := 13) hx hb dX4_openLoans_39 (by decide) ?_
        exact ih _ _ _ h _ _ _ V (lv_sub hl [2, 3, 4, 0] rfl)
      · replace h := ite_t hc6 h
        refine lv_iinc (v := v1 + 1) (lv' := [(1, .int (v1 + 1)), (5, .ref (ad (12 + v4.toNatClampNeg))), (2, .ref (ad 2)), (3, .int 20), (4, .int v4)]) hx hb dX4_openLoans_33 hl (k := 1) rfl rfl (by decide) rfl (fun ls hl => ?_)
        refine lv_iinc (v := v4 + 1) (lv' := [(4, .int (v4 + 1)), (1, .int (v1 + 1)), (5, .ref (ad (12 + v4.toNatClampNeg))), (2, .ref (ad 2)), (3, .int 20)]) hx hb dX4_openLoans_36 hl (k := 4) rfl rfl (by decide) rfl (fun ls hl => ?_)
        refine lv_goto (tgt := 13) hx hb dX4_openLoans_39 (by decide) ?_
        exact ih _ _ _ h _ _ _ V (lv_sub hl [1, 3, 4, 0] rfl)
def f_X4_openLoans (N : Nat) (σ : mSt)  : Option (Int32 × mSt) := f_X4_openLoans_13 N N σ 0 0
set_option maxHeartbeats 4000000 in
set_option maxRecDepth 100000 in
theorem c_X4_openLoans {l : Launch} {D : va_G} {y : Nat → ClassId} {ad : Nat → Nat} {N : Nat} {σ : mSt}  {q : Int32 × mSt} (hstk : l.stackTraces = false) (h : f_X4_openLoans N σ = some q) : mC l yX4_openLoans wsX4_openLoans { frames := 0, cells := 0, slots := 0, locals := 0 } D y 80 ad mZ (mS y ad σ) [.ref (ad 0)] (some (.int q.1)) (mS y ad q.2) 0 0 := by
  refine m_start (cc := cX4_openLoans) (maxL := 6) (ret := (some .int)) (by decide) rfl (Nat.le_of_ble_eq_true rfl) (fun p e s m args below meth c ls hB _ V Z hl => ?_)
  obtain ⟨hx, hb, hml, hown, hts, hr, hlk⟩ := id hB
  have hl : lv_has ls 6 [(0, .ref (ad 0))] := hl
  rw [f_X4_openLoans] at h
  refine lv_iconst (v := 0) hx hb dX4_openLoans_0 (by decide) ?_
  refine lv_istore_n (lv' := [(1, .int 0), (0, .ref (ad 0))]) hx hb dX4_openLoans_1 rfl hl (by decide) rfl (fun ls hl => ?_)
  refine lv_aload_n hx hb dX4_openLoans_2 rfl (lv_at hl 1 rfl) ?_
  refine rS_L hx hb hts hown (fun _ h => List.mem_cons_of_mem _ (List.mem_append_left _ (List.mem_append_right _ h))) V (hts _ (List.mem_of_getElem? (i := 1) rfl)) dX4_openLoans_3 ?_
  refine lv_astore_n (lv' := [(2, .ref (ad 2)), (1, .int 0), (0, .ref (ad 0))]) hx hb dX4_openLoans_6 rfl hl (by decide) rfl (fun ls hl => ?_)
  refine lv_aload_n hx hb dX4_openLoans_7 rfl (lv_at hl 0 rfl) ?_
  refine nS_L hx hb V dX4_openLoans_8 ?_
  refine lv_istore_n (lv' := [(3, .int 20), (2, .ref (ad 2)), (1, .int 0), (0, .ref (ad 0))]) hx hb dX4_openLoans_9 rfl hl (by decide) rfl (fun ls hl => ?_)
  refine lv_iconst (v := 0) hx hb dX4_openLoans_10 (by decide) ?_
  refine lv_istore (lv' := [(4, .int 0), (3, .int 20), (2, .ref (ad 2)), (1, .int 0), (0, .ref (ad 0))]) hx hb dX4_openLoans_11 hl (by decide) rfl (fun ls hl => ?_)
  exact w_X4_openLoans_13 hstk Z hB _ _ _ _ h _ _ _ V (lv_sub hl [3, 2, 1, 0] rfl)
-- X4_loansOf
def f_X4_loansOf_16 (N : Nat) (a1 : Int32) (a2 : Int32)  : Nat → mSt → Int32 → Int32 → Option (Int32 × mSt)
  | 0, _, _, _ => none
  | n + 1, σ, v3, v6 => if 20 ≤ v6 then some (v3, σ) else if mIn v6 20 then if (σ 9 v6.toNatClampNeg) = a2 then if (σ 5 v6.toNatClampNeg) = a1 then f_X4_loansOf_16 N a1 a2 n σ (v3 + 1) (v6 + 1) else f_X4_loansOf_16 N a1 a2 n σ v3 (v6 + 1) else f_X4_loansOf_16 N a1 a2 n σ v3 (v6 + 1) else none
set_option maxHeartbeats 4000000 in
set_option maxRecDepth 100000 in
theorem w_X4_loansOf_16 {l : Launch} {D : va_G} {y : Nat → ClassId} {ad : Nat → Nat} {N : Nat} {p : Program} {e : Env} {s : State} {m : MethodId} {args : Array Value} {below : List Frame} {meth : Method} {c : Code} (hstk : l.stackTraces = false) (Z : mZ (mFree 80 ad s.heap.size) s) (hB : mBd p s m args meth c cX4_loansOf 8 wsX4_loansOf RX4 (some .int)) {a1 : Int32} {a2 : Int32} {q : Int32 × mSt}   : ∀ (n : Nat) (σ : mSt) (v3 : Int32) (v6 : Int32), f_X4_loansOf_16 N a1 a2  n σ v3 v6 = some q → ∀ (H : Heap) (locs : List Loc) (ls : Array Slot), mV D y (mFree 80 ad s.heap.size) s s.heap H locs 80 ad (mS y ad σ) → lv_has ls 8 [(1, .int a1), (2, .int a2), (3, .int v3), (4, .ref (ad 2)), (5, .int 20), (6, .int v6)] → W p l e { frames := 0, cells := 0, slots := 0, locals := 0 } s m args below meth c H locs 0 0 (MQ below (mQ (some (.int q.1)) D 80 ad (mS y ad q.2) s.heap.size) args s 0 0 (mFree 80 ad s.heap.size)) (F0 m 16 ls []) := by
  obtain ⟨hx, hb, hml, hown, hts, hr, hlk⟩ := id hB
  intro n
  induction n with
  | zero =>
    intro σ v3 v6 h
    exact nomatch h
  | succ n ih =>
    intro σ v3 v6 h H locs ls V hl
    rw [f_X4_loansOf_16] at h
    refine lv_iload hx hb dX4_loansOf_16 (lv_at hl 5 rfl) ?_
    refine lv_iload hx hb dX4_loansOf_18 (lv_at hl 4 rfl) ?_
    refine lv_icmp_ge (tgt := 57) hx hb dX4_loansOf_20 (by decide) (fun hc5 => ?_) (fun hc5 => ?_)
    · replace h := ite_t hc5 h
      refine lv_iload_n hx hb dX4_loansOf_57 rfl (lv_at hl 2 rfl) ?_
      obtain rfl := Option.some.inj h
      exact m_iret hx hb hr hlk V (Nat.zero_le _) (Nat.zero_le _) dX4_loansOf_58
    · replace h := ite_f hc5 h
      refine lv_aload hx hb dX4_loansOf_23 (lv_at hl 3 rfl) ?_
      refine lv_iload hx hb dX4_loansOf_25 (lv_at hl 5 rfl) ?_
      obtain ⟨hi6, h⟩ := gd_s h
      refine aS_L hx hb V hi6 dX4_loansOf_27 ?_
      refine lv_astore (lv' := [(7, .ref (ad (12 + v6.toNatClampNeg))), (1, .int a1), (2, .int a2), (3, .int v3), (4, .ref (ad 2)), (5, .int 20), (6, .int v6)]) hx hb dX4_loansOf_28 hl (by decide) rfl (fun ls hl => ?_)
      refine lv_aload hx hb dX4_loansOf_30 (lv_at hl 0 rfl) ?_
      refine gS_L hx hb hts hown (fun _ h => List.mem_cons_of_mem _ (List.mem_append_right _ h)) V hi6.2 4 9 (by decide) rfl (hts _ (List.mem_of_getElem? (i := 2) rfl)) dX4_loansOf_32 ?_
      refine lv_iload_n hx hb dX4_loansOf_35 rfl (lv_at hl 2 rfl) ?_
      refine lv_icmp_ne (tgt := 51) hx hb dX4_loansOf_36 (by decide) (fun hc7 => ?_) (fun hc7 => ?_)
      · replace h := ite_f hc7 h
        refine lv_iinc (v := v6 + 1) (lv' := [(6, .int (v6 + 1)), (7, .ref (ad (12 + v6.toNatClampNeg))), (1, .int a1), (2, .int a2), (3, .int v3), (4, .ref (ad 2)), (5, .int 20)]) hx hb dX4_loansOf_51 hl (k := 6) rfl rfl (by decide) rfl (fun ls hl => ?_)
        refine lv_goto (tgt := 16) hx hb dX4_loansOf_54 (by decide) ?_
        exact ih _ _ _ h _ _ _ V (lv_sub hl [2, 3, 4, 5, 6, 0] rfl)
      · replace h := ite_t hc7 h
        refine lv_aload hx hb dX4_loansOf_39 (lv_at hl 0 rfl) ?_
        refine gS_L hx hb hts hown (fun _ h => List.mem_cons_of_mem _ (List.mem_append_right _ h)) V hi6.2 0 5 (by decide) rfl (hts _ (List.mem_of_getElem? (i := 3) rfl)) dX4_loansOf_41 ?_
        refine lv_iload_n hx hb dX4_loansOf_44 rfl (lv_at hl 1 rfl) ?_
        refine lv_icmp_ne (tgt := 51) hx hb dX4_loansOf_45 (by decide) (fun hc8 => ?_) (fun hc8 => ?_)
        · replace h := ite_f hc8 h
          refine lv_iinc (v := v6 + 1) (lv' := [(6, .int (v6 + 1)), (7, .ref (ad (12 + v6.toNatClampNeg))), (1, .int a1), (2, .int a2), (3, .int v3), (4, .ref (ad 2)), (5, .int 20)]) hx hb dX4_loansOf_51 hl (k := 6) rfl rfl (by decide) rfl (fun ls hl => ?_)
          refine lv_goto (tgt := 16) hx hb dX4_loansOf_54 (by decide) ?_
          exact ih _ _ _ h _ _ _ V (lv_sub hl [2, 3, 4, 5, 6, 0] rfl)
        · replace h := ite_t hc8 h
          refine lv_iinc (v := v3 + 1) (lv' := [(3, .int (v3 + 1)), (7, .ref (ad (12 + v6.toNatClampNeg))), (1, .int a1), (2, .int a2), (4, .ref (ad 2)), (5, .int 20), (6, .int v6)]) hx hb dX4_loansOf_48 hl (k := 3) rfl rfl (by decide) rfl (fun ls hl => ?_)
          refine lv_iinc (v := v6 + 1) (lv' := [(6, .int (v6 + 1)), (3, .int (v3 + 1)), (7, .ref (ad (12 + v6.toNatClampNeg))), (1, .int a1), (2, .int a2), (4, .ref (ad 2)), (5, .int 20)]) hx hb dX4_loansOf_51 hl (k := 6) rfl rfl (by decide) rfl (fun ls hl => ?_)
          refine lv_goto (tgt := 16) hx hb dX4_loansOf_54 (by decide) ?_
          exact ih _ _ _ h _ _ _ V (lv_sub hl [3, 4, 1, 5, 6, 0] rfl)
def f_X4_loansOf (N : Nat) (σ : mSt) (a1 : Int32) (a2 : Int32) : Option (Int32 × mSt) := f_X4_loansOf_16 N a1 a2 N σ 0 0
set_option maxHeartbeats 4000000 in
set_option maxRecDepth 100000 in
theorem c_X4_loansOf {l : Launch} {D : va_G} {y : Nat → ClassId} {ad : Nat → Nat} {N : Nat} {σ : mSt} {a1 : Int32} {a2 : Int32} {q : Int32 × mSt} (hstk : l.stackTraces = false) (h : f_X4_loansOf N σ a1 a2 = some q) : mC l yX4_loansOf wsX4_loansOf { frames := 0, cells := 0, slots := 0, locals := 0 } D y 80 ad mZ (mS y ad σ) [.ref (ad 0), .int a1, .int a2] (some (.int q.1)) (mS y ad q.2) 0 0 := by
  refine m_start (cc := cX4_loansOf) (maxL := 8) (ret := (some .int)) (by decide) rfl (Nat.le_of_ble_eq_true rfl) (fun p e s m args below meth c ls hB _ V Z hl => ?_)
  obtain ⟨hx, hb, hml, hown, hts, hr, hlk⟩ := id hB
  have hl : lv_has ls 8 [(0, .ref (ad 0)), (1, .int a1), (2, .int a2)] := hl
  rw [f_X4_loansOf] at h
  refine lv_iconst (v := 0) hx hb dX4_loansOf_0 (by decide) ?_
  refine lv_istore_n (lv' := [(3, .int 0), (0, .ref (ad 0)), (1, .int a1), (2, .int a2)]) hx hb dX4_loansOf_1 rfl hl (by decide) rfl (fun ls hl => ?_)
  refine lv_aload_n hx hb dX4_loansOf_2 rfl (lv_at hl 1 rfl) ?_
  refine rS_L hx hb hts hown (fun _ h => List.mem_cons_of_mem _ (List.mem_append_left _ (List.mem_append_right _ h))) V (hts _ (List.mem_of_getElem? (i := 1) rfl)) dX4_loansOf_3 ?_
  refine lv_astore (lv' := [(4, .ref (ad 2)), (3, .int 0), (0, .ref (ad 0)), (1, .int a1), (2, .int a2)]) hx hb dX4_loansOf_6 hl (by decide) rfl (fun ls hl => ?_)
  refine lv_aload hx hb dX4_loansOf_8 (lv_at hl 0 rfl) ?_
  refine nS_L hx hb V dX4_loansOf_10 ?_
  refine lv_istore (lv' := [(5, .int 20), (4, .ref (ad 2)), (3, .int 0), (0, .ref (ad 0)), (1, .int a1), (2, .int a2)]) hx hb dX4_loansOf_11 hl (by decide) rfl (fun ls hl => ?_)
  refine lv_iconst (v := 0) hx hb dX4_loansOf_13 (by decide) ?_
  refine lv_istore (lv' := [(6, .int 0), (5, .int 20), (4, .ref (ad 2)), (3, .int 0), (0, .ref (ad 0)), (1, .int a1), (2, .int a2)]) hx hb dX4_loansOf_14 hl (by decide) rfl (fun ls hl => ?_)
  exact w_X4_loansOf_16 hstk Z hB _ _ _ _ h _ _ _ V (lv_sub hl [5, 6, 3, 2, 1, 0] rfl)
-- X4_isOwed
def f_X4_isOwed (N : Nat) (σ : mSt) (a1 : Nat) : Option (Int32 × mSt) := if a1 < 20 then if (σ 9 a1) = 0 then some (1, σ) else if (σ 9 a1) = 2 then some (1, σ) else some (0, σ) else none
set_option maxHeartbeats 4000000 in
set_option maxRecDepth 100000 in
theorem c_X4_isOwed {l : Launch} {D : va_G} {y : Nat → ClassId} {ad : Nat → Nat} {N : Nat} {σ : mSt} {a1 : Nat} {q : Int32 × mSt} (hstk : l.stackTraces = false) (h : f_X4_isOwed N σ a1 = some q) : mC l yX4_isOwed wsX4_isOwed { frames := 0, cells := 0, slots := 0, locals := 0 } D y 80 ad mZ (mS y ad σ) [.ref (ad 0), .ref (ad (12 + a1))] (some (.int q.1)) (mS y ad q.2) 0 0 := by
  refine m_start (cc := cX4_isOwed) (maxL := 2) (ret := (some .boolean)) (by decide) rfl (Nat.le_of_ble_eq_true rfl) (fun p e s m args below meth c ls hB _ V Z hl => ?_)
  obtain ⟨hx, hb, hml, hown, hts, hr, hlk⟩ := id hB
  have hl : lv_has ls 2 [(0, .ref (ad 0)), (1, .ref (ad (12 + a1)))] := hl
  rw [f_X4_isOwed] at h
  obtain ⟨hg4, h⟩ := gd_s h
  refine lv_aload_n hx hb dX4_isOwed_0 rfl (lv_at hl 1 rfl) ?_
  refine gS_L hx hb hts hown (fun _ h => List.mem_cons_of_mem _ (List.mem_append_right _ h)) V hg4 4 9 (by decide) rfl (hts _ (List.mem_of_getElem? (i := 1) rfl)) dX4_isOwed_1 ?_
  refine lv_if_eq (tgt := 15) hx hb dX4_isOwed_4 (by decide) (fun hc5 => ?_) (fun hc5 => ?_)
  · replace h := ite_t hc5 h
    refine lv_iconst (v := 1) hx hb dX4_isOwed_15 (by decide) ?_
    refine lv_goto (tgt := 20) hx hb dX4_isOwed_16 (by decide) ?_
    obtain rfl := Option.some.inj h
    exact m_zret hx hb hr hlk V (Or.inr rfl) (Nat.zero_le _) (Nat.zero_le _) dX4_isOwed_20
  · replace h := ite_f hc5 h
    refine lv_aload_n hx hb dX4_isOwed_7 rfl (lv_at hl 1 rfl) ?_
    refine gS_L hx hb hts hown (fun _ h => List.mem_cons_of_mem _ (List.mem_append_right _ h)) V hg4 4 9 (by decide) rfl (hts _ (List.mem_of_getElem? (i := 1) rfl)) dX4_isOwed_8 ?_
    refine lv_iconst (v := 2) hx hb dX4_isOwed_11 (by decide) ?_
    refine lv_icmp_ne (tgt := 19) hx hb dX4_isOwed_12 (by decide) (fun hc6 => ?_) (fun hc6 => ?_)
    · replace h := ite_f hc6 h
      refine lv_iconst (v := 0) hx hb dX4_isOwed_19 (by decide) ?_
      obtain rfl := Option.some.inj h
      exact m_zret hx hb hr hlk V (Or.inl rfl) (Nat.zero_le _) (Nat.zero_le _) dX4_isOwed_20
    · replace h := ite_t hc6 h
      refine lv_iconst (v := 1) hx hb dX4_isOwed_15 (by decide) ?_
      refine lv_goto (tgt := 20) hx hb dX4_isOwed_16 (by decide) ?_
      obtain rfl := Option.some.inj h
      exact m_zret hx hb hr hlk V (Or.inr rfl) (Nat.zero_le _) (Nat.zero_le _) dX4_isOwed_20
-- X4_owedBy
def f_X4_owedBy_14 (N : Nat) (a1 : Int32)  : Nat → mSt → Int32 → Int32 → Option (Int32 × mSt)
  | 0, _, _, _ => none
  | n + 1, σ, v2, v5 => if 20 ≤ v5 then some (v2, σ) else if mIn v5 20 then (f_X4_isOwed N σ v5.toNatClampNeg).bind fun q8 => if q8.1 = 0 then f_X4_owedBy_14 N a1 n q8.2 v2 (v5 + 1) else if (q8.2 5 v5.toNatClampNeg) = a1 then f_X4_owedBy_14 N a1 n q8.2 (v2 + (q8.2 6 v5.toNatClampNeg)) (v5 + 1) else f_X4_owedBy_14 N a1 n q8.2 v2 (v5 + 1) else none
set_option maxHeartbeats 4000000 in
set_option maxRecDepth 100000 in
theorem w_X4_owedBy_14 {l : Launch} {D : va_G} {y : Nat → ClassId} {ad : Nat → Nat} {N : Nat} {p : Program} {e : Env} {s : State} {m : MethodId} {args : Array Value} {below : List Frame} {meth : Method} {c : Code} (hstk : l.stackTraces = false) (Z : mZ (mFree 80 ad s.heap.size) s) (hB : mBd p s m args meth c cX4_owedBy 7 wsX4_owedBy RX4 (some .int)) {a1 : Int32} {q : Int32 × mSt}   : ∀ (n : Nat) (σ : mSt) (v2 : Int32) (v5 : Int32), f_X4_owedBy_14 N a1  n σ v2 v5 = some q → ∀ (H : Heap) (locs : List Loc) (ls : Array Slot), mV D y (mFree 80 ad s.heap.size) s s.heap H locs 80 ad (mS y ad σ) → lv_has ls 7 [(0, .ref (ad 0)), (1, .int a1), (2, .int v2), (3, .ref (ad 2)), (4, .int 20), (5, .int v5)] → W p l e { frames := 1, cells := 0, slots := 0, locals := 21 } s m args below meth c H locs 0 0 (MQ below (mQ (some (.int q.1)) D 80 ad (mS y ad q.2) s.heap.size) args s 0 0 (mFree 80 ad s.heap.size)) (F0 m 14 ls []) := by
  obtain ⟨hx, hb, hml, hown, hts, hr, hlk⟩ := id hB
  intro n
  induction n with
  | zero =>
    intro σ v2 v5 h
    exact nomatch h
  | succ n ih =>
    intro σ v2 v5 h H locs ls V hl
    rw [f_X4_owedBy_14] at h
    refine lv_iload hx hb dX4_owedBy_14 (lv_at hl 5 rfl) ?_
    refine lv_iload hx hb dX4_owedBy_16 (lv_at hl 4 rfl) ?_
    refine lv_icmp_ge (tgt := 59) hx hb dX4_owedBy_18 (by decide) (fun hc6 => ?_) (fun hc6 => ?_)
    · replace h := ite_t hc6 h
      refine lv_iload_n hx hb dX4_owedBy_59 rfl (lv_at hl 2 rfl) ?_
      obtain rfl := Option.some.inj h
      exact m_iret hx hb hr hlk V (Nat.zero_le _) (Nat.zero_le _) dX4_owedBy_60
    · replace h := ite_f hc6 h
      refine lv_aload_n hx hb dX4_owedBy_21 rfl (lv_at hl 3 rfl) ?_
      refine lv_iload hx hb dX4_owedBy_22 (lv_at hl 5 rfl) ?_
      obtain ⟨hi7, h⟩ := gd_s h
      refine aS_L hx hb V hi7 dX4_owedBy_24 ?_
      refine lv_astore (lv' := [(6, .ref (ad (12 + v5.toNatClampNeg))), (0, .ref (ad 0)), (1, .int a1), (2, .int v2), (3, .ref (ad 2)), (4, .int 20), (5, .int v5)]) hx hb dX4_owedBy_25 hl (by decide) rfl (fun ls hl => ?_)
      refine lv_aload_n hx hb dX4_owedBy_27 rfl (lv_at hl 1 rfl) ?_
      refine lv_aload hx hb dX4_owedBy_28 (lv_at hl 0 rfl) ?_
      obtain ⟨q8, hq8, h⟩ := bd_s h
      refine kSS (As := [.ref (ad (12 + v5.toNatClampNeg))]) (rest := []) ⟨hx, hb, hml, hown, hts⟩ Z V (c_X4_isOwed (l := l) (D := D) (y := y) (ad := ad) hstk hq8) (cwV 1 hts gX4_owedBy_X4_isOwed rfl rfl rfl (by decide +kernel) ⟨Nat.le_of_ble_eq_true rfl, Nat.le_of_ble_eq_true rfl⟩) (by omega) (mS_T y ad _) rfl rfl hl.1 rfl (Nat.le_of_ble_eq_true rfl) ⟨Nat.zero_le _, Nat.zero_le _⟩ rfl dX4_owedBy_30 (fun H locs V => ?_)
      refine lv_if_eq (tgt := 53) hx hb dX4_owedBy_33 (by decide) (fun hc9 => ?_) (fun hc9 => ?_)
      · replace h := ite_t hc9 h
        refine lv_iinc (v := v5 + 1) (lv' := [(5, .int (v5 + 1)), (6, .ref (ad (12 + v5.toNatClampNeg))), (0, .ref (ad 0)), (1, .int a1), (2, .int v2), (3, .ref (ad 2)), (4, .int 20)]) hx hb dX4_owedBy_53 hl (k := 6) rfl rfl (by decide) rfl (fun ls hl => ?_)
        refine lv_goto (tgt := 14) hx hb dX4_owedBy_56 (by decide) ?_
        exact ih _ _ _ h _ _ _ V (lv_sub hl [2, 3, 4, 5, 6, 0] rfl)
      · replace h := ite_f hc9 h
        refine lv_aload hx hb dX4_owedBy_36 (lv_at hl 0 rfl) ?_
        refine gS_L hx hb hts hown (fun _ h => List.mem_cons_of_mem _ (List.mem_append_right _ h)) V hi7.2 0 5 (by decide) rfl (hts _ (List.mem_of_getElem? (i := 2) rfl)) dX4_owedBy_38 ?_
        refine lv_iload_n hx hb dX4_owedBy_41 rfl (lv_at hl 2 rfl) ?_
        refine lv_icmp_ne (tgt := 53) hx hb dX4_owedBy_42 (by decide) (fun hc10 => ?_) (fun hc10 => ?_)
        · replace h := ite_f hc10 h
          refine lv_iinc (v := v5 + 1) (lv' := [(5, .int (v5 + 1)), (6, .ref (ad (12 + v5.toNatClampNeg))), (0, .ref (ad 0)), (1, .int a1), (2, .int v2), (3, .ref (ad 2)), (4, .int 20)]) hx hb dX4_owedBy_53 hl (k := 6) rfl rfl (by decide) rfl (fun ls hl => ?_)
          refine lv_goto (tgt := 14) hx hb dX4_owedBy_56 (by decide) ?_
          exact ih _ _ _ h _ _ _ V (lv_sub hl [2, 3, 4, 5, 6, 0] rfl)
        · replace h := ite_t hc10 h
          refine lv_iload_n hx hb dX4_owedBy_45 rfl (lv_at hl 3 rfl) ?_
          refine lv_aload hx hb dX4_owedBy_46 (lv_at hl 0 rfl) ?_
          refine gS_L hx hb hts hown (fun _ h => List.mem_cons_of_mem _ (List.mem_append_right _ h)) V hi7.2 1 6 (by decide) rfl (hts _ (List.mem_of_getElem? (i := 3) rfl)) dX4_owedBy_48 ?_
          refine lv_iadd hx hb dX4_owedBy_51 ?_
          refine lv_istore_n (lv' := [(2, .int (v2 + (q8.2 6 v5.toNatClampNeg))), (6, .ref (ad (12 + v5.toNatClampNeg))), (0, .ref (ad 0)), (1, .int a1), (3, .ref (ad 2)), (4, .int 20), (5, .int v5)]) hx hb dX4_owedBy_52 rfl hl (by decide) rfl (fun ls hl => ?_)
          refine lv_iinc (v := v5 + 1) (lv' := [(5, .int (v5 + 1)), (2, .int (v2 + (q8.2 6 v5.toNatClampNeg))), (6, .ref (ad (12 + v5.toNatClampNeg))), (0, .ref (ad 0)), (1, .int a1), (3, .ref (ad 2)), (4, .int 20)]) hx hb dX4_owedBy_53 hl (k := 6) rfl rfl (by decide) rfl (fun ls hl => ?_)
          refine lv_goto (tgt := 14) hx hb dX4_owedBy_56 (by decide) ?_
          exact ih _ _ _ h _ _ _ V (lv_sub hl [3, 4, 1, 5, 6, 0] rfl)
def f_X4_owedBy (N : Nat) (σ : mSt) (a1 : Int32) : Option (Int32 × mSt) := f_X4_owedBy_14 N a1 N σ 0 0
set_option maxHeartbeats 4000000 in
set_option maxRecDepth 100000 in
theorem c_X4_owedBy {l : Launch} {D : va_G} {y : Nat → ClassId} {ad : Nat → Nat} {N : Nat} {σ : mSt} {a1 : Int32} {q : Int32 × mSt} (hstk : l.stackTraces = false) (h : f_X4_owedBy N σ a1 = some q) : mC l yX4_owedBy wsX4_owedBy { frames := 1, cells := 0, slots := 0, locals := 21 } D y 80 ad mZ (mS y ad σ) [.ref (ad 0), .int a1] (some (.int q.1)) (mS y ad q.2) 0 0 := by
  refine m_start (cc := cX4_owedBy) (maxL := 7) (ret := (some .int)) (by decide) rfl (Nat.le_of_ble_eq_true rfl) (fun p e s m args below meth c ls hB _ V Z hl => ?_)
  obtain ⟨hx, hb, hml, hown, hts, hr, hlk⟩ := id hB
  have hl : lv_has ls 7 [(0, .ref (ad 0)), (1, .int a1)] := hl
  rw [f_X4_owedBy] at h
  refine lv_iconst (v := 0) hx hb dX4_owedBy_0 (by decide) ?_
  refine lv_istore_n (lv' := [(2, .int 0), (0, .ref (ad 0)), (1, .int a1)]) hx hb dX4_owedBy_1 rfl hl (by decide) rfl (fun ls hl => ?_)
  refine lv_aload_n hx hb dX4_owedBy_2 rfl (lv_at hl 1 rfl) ?_
  refine rS_L hx hb hts hown (fun _ h => List.mem_cons_of_mem _ (List.mem_append_left _ (List.mem_append_right _ h))) V (hts _ (List.mem_of_getElem? (i := 1) rfl)) dX4_owedBy_3 ?_
  refine lv_astore_n (lv' := [(3, .ref (ad 2)), (2, .int 0), (0, .ref (ad 0)), (1, .int a1)]) hx hb dX4_owedBy_6 rfl hl (by decide) rfl (fun ls hl => ?_)
  refine lv_aload_n hx hb dX4_owedBy_7 rfl (lv_at hl 0 rfl) ?_
  refine nS_L hx hb V dX4_owedBy_8 ?_
  refine lv_istore (lv' := [(4, .int 20), (3, .ref (ad 2)), (2, .int 0), (0, .ref (ad 0)), (1, .int a1)]) hx hb dX4_owedBy_9 hl (by decide) rfl (fun ls hl => ?_)
  refine lv_iconst (v := 0) hx hb dX4_owedBy_11 (by decide) ?_
  refine lv_istore (lv' := [(5, .int 0), (4, .int 20), (3, .ref (ad 2)), (2, .int 0), (0, .ref (ad 0)), (1, .int a1)]) hx hb dX4_owedBy_12 hl (by decide) rfl (fun ls hl => ?_)
  exact w_X4_owedBy_14 hstk Z hB _ _ _ _ h _ _ _ V (lv_sub hl [4, 5, 3, 2, 1, 0] rfl)
-- X4_playersAheadOf
def f_X4_playersAheadOf_64 (N : Nat) (a1 : Int32) (rec11 : mSt → Nat → Int32 → Int32 → Option (Int32 × mSt)) (σ : mSt) (v2 : Nat) (v3 : Int32) (v4 : Int32) : Option (Int32 × mSt) := if v2 < 8 then rec11 σ v2 (v3 + 1) (v4 + 1) else none
set_option maxHeartbeats 4000000 in
set_option maxRecDepth 100000 in
theorem w_X4_playersAheadOf_64 {l : Launch} {D : va_G} {y : Nat → ClassId} {ad : Nat → Nat} {N : Nat} {p : Program} {e : Env} {s : State} {m : MethodId} {args : Array Value} {below : List Frame} {meth : Method} {c : Code} (hstk : l.stackTraces = false) (Z : mZ (mFree 80 ad s.heap.size) s) (hB : mBd p s m args meth c cX4_playersAheadOf 7 wsX4_playersAheadOf RX4 (some .int)) {a1 : Int32} {q : Int32 × mSt} {rec11 : mSt → Nat → Int32 → Int32 → Option (Int32 × mSt)} (hrec11 : ∀ (σ : mSt) (v2 : Nat) (v3 : Int32) (v4 : Int32), rec11 σ v2 v3 v4 = some q → ∀ (H : Heap) (locs : List Loc) (ls : Array Slot), mV D y (mFree 80 ad s.heap.size) s s.heap H locs 80 ad (mS y ad σ) → lv_has ls 7 [(0, .ref (ad 0)), (1, .int a1), (2, .ref (ad (4 + v2))), (3, .int v3), (4, .int v4)] → W p l e { frames := 7, cells := 0, slots := 0, locals := 103 } s m args below meth c H locs 0 0 (MQ below (mQ (some (.int q.1)) D 80 ad (mS y ad q.2) s.heap.size) args s 0 0 (mFree 80 ad s.heap.size)) (F0 m 11 ls [])) : ∀ (σ : mSt) (v2 : Nat) (v3 : Int32) (v4 : Int32), f_X4_playersAheadOf_64 N a1 rec11 σ v2 v3 v4 = some q → ∀ (H : Heap) (locs : List Loc) (ls : Array Slot), mV D y (mFree 80 ad s.heap.size) s s.heap H locs 80 ad (mS y ad σ) → lv_has ls 7 [(0, .ref (ad 0)), (1, .int a1), (2, .ref (ad (4 + v2))), (3, .int v3), (4, .int v4)] → W p l e { frames := 7, cells := 0, slots := 0, locals := 103 } s m args below meth c H locs 0 0 (MQ below (mQ (some (.int q.1)) D 80 ad (mS y ad q.2) s.heap.size) args s 0 0 (mFree 80 ad s.heap.size)) (F0 m 64 ls []) := by
  obtain ⟨hx, hb, hml, hown, hts, hr, hlk⟩ := id hB
  intro σ v2 v3 v4 h H locs ls V hl
  rw [f_X4_playersAheadOf_64] at h
  obtain ⟨hg24, h⟩ := gd_s h
  refine lv_iinc (v := v3 + 1) (lv' := [(3, .int (v3 + 1)), (0, .ref (ad 0)), (1, .int a1), (2, .ref (ad (4 + v2))), (4, .int v4)]) hx hb dX4_playersAheadOf_64 hl (k := 3) rfl rfl (by decide) rfl (fun ls hl => ?_)
  refine lv_iinc (v := v4 + 1) (lv' := [(4, .int (v4 + 1)), (3, .int (v3 + 1)), (0, .ref (ad 0)), (1, .int a1), (2, .ref (ad (4 + v2)))]) hx hb dX4_playersAheadOf_67 hl (k := 4) rfl rfl (by decide) rfl (fun ls hl => ?_)
  refine lv_goto (tgt := 11) hx hb dX4_playersAheadOf_70 (by decide) ?_
  exact hrec11 _ _ _ _ h _ _ _ V (lv_sub hl [2, 3, 4, 1, 0] rfl)
def f_X4_playersAheadOf_48 (N : Nat) (a1 : Int32) (rec11 : mSt → Nat → Int32 → Int32 → Option (Int32 × mSt)) (σ : mSt) (v2 : Nat) (v3 : Int32) (v4 : Int32) (v5 : Nat) (s0 : Int32) : Option (Int32 × mSt) := if v2 < 8 then if v5 < 8 then (f_X2_leads N σ v5 v2).bind fun q27 => if q27.1 = 0 then if s0 = 0 then rec11 q27.2 v2 v3 (v4 + 1) else f_X4_playersAheadOf_64 N a1 rec11 q27.2 v2 v3 v4 else f_X4_playersAheadOf_64 N a1 rec11 q27.2 v2 v3 v4 else none else none
set_option maxHeartbeats 4000000 in
set_option maxRecDepth 100000 in
theorem w_X4_playersAheadOf_48 {l : Launch} {D : va_G} {y : Nat → ClassId} {ad : Nat → Nat} {N : Nat} {p : Program} {e : Env} {s : State} {m : MethodId} {args : Array Value} {below : List Frame} {meth : Method} {c : Code} (hstk : l.stackTraces = false) (Z : mZ (mFree 80 ad s.heap.size) s) (hB : mBd p s m args meth c cX4_playersAheadOf 7 wsX4_playersAheadOf RX4 (some .int)) {a1 : Int32} {q : Int32 × mSt} {rec11 : mSt → Nat → Int32 → Int32 → Option (Int32 × mSt)} (hrec11 : ∀ (σ : mSt) (v2 : Nat) (v3 : Int32) (v4 : Int32), rec11 σ v2 v3 v4 = some q → ∀ (H : Heap) (locs : List Loc) (ls : Array Slot), mV D y (mFree 80 ad s.heap.size) s s.heap H locs 80 ad (mS y ad σ) → lv_has ls 7 [(0, .ref (ad 0)), (1, .int a1), (2, .ref (ad (4 + v2))), (3, .int v3), (4, .int v4)] → W p l e { frames := 7, cells := 0, slots := 0, locals := 103 } s m args below meth c H locs 0 0 (MQ below (mQ (some (.int q.1)) D 80 ad (mS y ad q.2) s.heap.size) args s 0 0 (mFree 80 ad s.heap.size)) (F0 m 11 ls [])) : ∀ (σ : mSt) (v2 : Nat) (v3 : Int32) (v4 : Int32) (v5 : Nat) (s0 : Int32), f_X4_playersAheadOf_48 N a1 rec11 σ v2 v3 v4 v5 s0 = some q → ∀ (H : Heap) (locs : List Loc) (ls : Array Slot), mV D y (mFree 80 ad s.heap.size) s s.heap H locs 80 ad (mS y ad σ) → lv_has ls 7 [(0, .ref (ad 0)), (1, .int a1), (2, .ref (ad (4 + v2))), (3, .int v3), (4, .int v4), (5, .ref (ad (4 + v5)))] → W p l e { frames := 7, cells := 0, slots := 0, locals := 103 } s m args below meth c H locs 0 0 (MQ below (mQ (some (.int q.1)) D 80 ad (mS y ad q.2) s.heap.size) args s 0 0 (mFree 80 ad s.heap.size)) (F0 m 48 ls [.int s0]) := by
  obtain ⟨hx, hb, hml, hown, hts, hr, hlk⟩ := id hB
  intro σ v2 v3 v4 v5 s0 h H locs ls V hl
  rw [f_X4_playersAheadOf_48] at h
  obtain ⟨hg25, h⟩ := gd_s h
  obtain ⟨hg26, h⟩ := gd_s h
  refine lv_istore (lv' := [(6, .int s0), (0, .ref (ad 0)), (1, .int a1), (2, .ref (ad (4 + v2))), (3, .int v3), (4, .int v4), (5, .ref (ad (4 + v5)))]) hx hb dX4_playersAheadOf_48 hl (by decide) rfl (fun ls hl => ?_)
  refine lv_aload hx hb dX4_playersAheadOf_50 (lv_at hl 6 rfl) ?_
  refine lv_aload_n hx hb dX4_playersAheadOf_52 rfl (lv_at hl 3 rfl) ?_
  obtain ⟨q27, hq27, h⟩ := bd_s h
  refine kSS (As := [.ref (ad (4 + v2))]) (rest := []) ⟨hx, hb, hml, hown, hts⟩ Z V (c_X2_leads (l := l) (D := D) (y := y) (ad := ad) hstk hq27) (cwV 1 hts gX4_playersAheadOf_X2_leads rfl rfl rfl (by decide +kernel) ⟨Nat.le_of_ble_eq_true rfl, Nat.le_of_ble_eq_true rfl⟩) (by omega) (mS_P y ad _ hg26) rfl rfl hl.1 rfl (Nat.le_of_ble_eq_true rfl) ⟨Nat.zero_le _, Nat.zero_le _⟩ rfl dX4_playersAheadOf_53 (fun H locs V => ?_)
  refine lv_if_ne (tgt := 64) hx hb dX4_playersAheadOf_56 (by decide) (fun hc28 => ?_) (fun hc28 => ?_)
  · replace h := ite_f hc28 h
    exact w_X4_playersAheadOf_64 hstk Z hB hrec11 _ _ _ _ h _ _ _ V (lv_sub hl [1, 2, 3, 4, 5] rfl)
  · replace h := ite_t hc28 h
    refine lv_iload hx hb dX4_playersAheadOf_59 (lv_at hl 0 rfl) ?_
    refine lv_if_eq (tgt := 67) hx hb dX4_playersAheadOf_61 (by decide) (fun hc29 => ?_) (fun hc29 => ?_)
    · replace h := ite_t hc29 h
      refine lv_iinc (v := v4 + 1) (lv' := [(4, .int (v4 + 1)), (6, .int s0), (0, .ref (ad 0)), (1, .int a1), (2, .ref (ad (4 + v2))), (3, .int v3), (5, .ref (ad (4 + v5)))]) hx hb dX4_playersAheadOf_67 hl (k := 5) rfl rfl (by decide) rfl (fun ls hl => ?_)
      refine lv_goto (tgt := 11) hx hb dX4_playersAheadOf_70 (by decide) ?_
      exact hrec11 _ _ _ _ h _ _ _ V (lv_sub hl [2, 3, 4, 5, 0] rfl)
    · replace h := ite_f hc29 h
      exact w_X4_playersAheadOf_64 hstk Z hB hrec11 _ _ _ _ h _ _ _ V (lv_sub hl [1, 2, 3, 4, 5] rfl)
def f_X4_playersAheadOf_47 (N : Nat) (a1 : Int32) (rec11 : mSt → Nat → Int32 → Int32 → Option (Int32 × mSt)) (σ : mSt) (v2 : Nat) (v3 : Int32) (v4 : Int32) (v5 : Nat) : Option (Int32 × mSt) := if v2 < 8 then if v5 < 8 then f_X4_playersAheadOf_48 N a1 rec11 σ v2 v3 v4 v5 0 else none else none
set_option maxHeartbeats 4000000 in
set_option maxRecDepth 100000 in
theorem w_X4_playersAheadOf_47 {l : Launch} {D : va_G} {y : Nat → ClassId} {ad : Nat → Nat} {N : Nat} {p : Program} {e : Env} {s : State} {m : MethodId} {args : Array Value} {below : List Frame} {meth : Method} {c : Code} (hstk : l.stackTraces = false) (Z : mZ (mFree 80 ad s.heap.size) s) (hB : mBd p s m args meth c cX4_playersAheadOf 7 wsX4_playersAheadOf RX4 (some .int)) {a1 : Int32} {q : Int32 × mSt} {rec11 : mSt → Nat → Int32 → Int32 → Option (Int32 × mSt)} (hrec11 : ∀ (σ : mSt) (v2 : Nat) (v3 : Int32) (v4 : Int32), rec11 σ v2 v3 v4 = some q → ∀ (H : Heap) (locs : List Loc) (ls : Array Slot), mV D y (mFree 80 ad s.heap.size) s s.heap H locs 80 ad (mS y ad σ) → lv_has ls 7 [(0, .ref (ad 0)), (1, .int a1), (2, .ref (ad (4 + v2))), (3, .int v3), (4, .int v4)] → W p l e { frames := 7, cells := 0, slots := 0, locals := 103 } s m args below meth c H locs 0 0 (MQ below (mQ (some (.int q.1)) D 80 ad (mS y ad q.2) s.heap.size) args s 0 0 (mFree 80 ad s.heap.size)) (F0 m 11 ls [])) : ∀ (σ : mSt) (v2 : Nat) (v3 : Int32) (v4 : Int32) (v5 : Nat), f_X4_playersAheadOf_47 N a1 rec11 σ v2 v3 v4 v5 = some q → ∀ (H : Heap) (locs : List Loc) (ls : Array Slot), mV D y (mFree 80 ad s.heap.size) s s.heap H locs 80 ad (mS y ad σ) → lv_has ls 7 [(0, .ref (ad 0)), (1, .int a1), (2, .ref (ad (4 + v2))), (3, .int v3), (4, .int v4), (5, .ref (ad (4 + v5)))] → W p l e { frames := 7, cells := 0, slots := 0, locals := 103 } s m args below meth c H locs 0 0 (MQ below (mQ (some (.int q.1)) D 80 ad (mS y ad q.2) s.heap.size) args s 0 0 (mFree 80 ad s.heap.size)) (F0 m 47 ls []) := by
  obtain ⟨hx, hb, hml, hown, hts, hr, hlk⟩ := id hB
  intro σ v2 v3 v4 v5 h H locs ls V hl
  rw [f_X4_playersAheadOf_47] at h
  obtain ⟨hg30, h⟩ := gd_s h
  obtain ⟨hg31, h⟩ := gd_s h
  refine lv_iconst (v := 0) hx hb dX4_playersAheadOf_47 (by decide) ?_
  exact w_X4_playersAheadOf_48 hstk Z hB hrec11 _ _ _ _ _ _ h _ _ _ V (lv_sub hl [0, 1, 2, 3, 4, 5] rfl)
def f_X4_playersAheadOf_11 (N : Nat) (a1 : Int32)  : Nat → mSt → Nat → Int32 → Int32 → Option (Int32 × mSt)
  | 0, _, _, _, _ => none
  | n + 1, σ, v2, v3, v4 => if v2 < 8 then if (σ 21 0) ≤ v4 then some (v3, σ) else (f_X4_playerAt N σ v4).bind fun q34 => oCase q34.1 (fun r35 => if r35 < 8 then if a1 ≤ v4 then f_X4_playersAheadOf_47 N a1 (fun σ v2 v3 v4 => f_X4_playersAheadOf_11 N a1 n σ v2 v3 v4) q34.2 v2 v3 v4 r35 else (f_X2_leads N q34.2 v2 r35).bind fun q40 => if q40.1 = 0 then f_X4_playersAheadOf_48 N a1 (fun σ v2 v3 v4 => f_X4_playersAheadOf_11 N a1 n σ v2 v3 v4) q40.2 v2 v3 v4 r35 1 else f_X4_playersAheadOf_47 N a1 (fun σ v2 v3 v4 => f_X4_playersAheadOf_11 N a1 n σ v2 v3 v4) q40.2 v2 v3 v4 r35 else none) (fun _ => none) else none
set_option maxHeartbeats 4000000 in
set_option maxRecDepth 100000 in
theorem w_X4_playersAheadOf_11 {l : Launch} {D : va_G} {y : Nat → ClassId} {ad : Nat → Nat} {N : Nat} {p : Program} {e : Env} {s : State} {m : MethodId} {args : Array Value} {below : List Frame} {meth : Method} {c : Code} (hstk : l.stackTraces = false) (Z : mZ (mFree 80 ad s.heap.size) s) (hB : mBd p s m args meth c cX4_playersAheadOf 7 wsX4_playersAheadOf RX4 (some .int)) {a1 : Int32} {q : Int32 × mSt}   : ∀ (n : Nat) (σ : mSt) (v2 : Nat) (v3 : Int32) (v4 : Int32), f_X4_playersAheadOf_11 N a1  n σ v2 v3 v4 = some q → ∀ (H : Heap) (locs : List Loc) (ls : Array Slot), mV D y (mFree 80 ad s.heap.size) s s.heap H locs 80 ad (mS y ad σ) → lv_has ls 7 [(0, .ref (ad 0)), (1, .int a1), (2, .ref (ad (4 + v2))), (3, .int v3), (4, .int v4)] → W p l e { frames := 7, cells := 0, slots := 0, locals := 103 } s m args below meth c H locs 0 0 (MQ below (mQ (some (.int q.1)) D 80 ad (mS y ad q.2) s.heap.size) args s 0 0 (mFree 80 ad s.heap.size)) (F0 m 11 ls []) := by
  obtain ⟨hx, hb, hml, hown, hts, hr, hlk⟩ := id hB
  intro n
  induction n with
  | zero =>
    intro σ v2 v3 v4 h
    exact nomatch h
  | succ n ih =>
    intro σ v2 v3 v4 h H locs ls V hl
    rw [f_X4_playersAheadOf_11] at h
    obtain ⟨hg32, h⟩ := gd_s h
    refine lv_iload hx hb dX4_playersAheadOf_11 (lv_at hl 4 rfl) ?_
    refine lv_aload_n hx hb dX4_playersAheadOf_13 rfl (lv_at hl 0 rfl) ?_
    refine gS_T hx hb hts hown (fun _ h => List.mem_cons_of_mem _ (List.mem_append_left _ (List.mem_append_left _ (List.mem_append_right _ h)))) V 0 21 (by decide) rfl (hts _ (List.mem_of_getElem? (i := 1) rfl)) dX4_playersAheadOf_14 ?_
    refine lv_icmp_ge (tgt := 73) hx hb dX4_playersAheadOf_17 (by decide) (fun hc33 => ?_) (fun hc33 => ?_)
    · replace h := ite_t hc33 h
      refine lv_iload_n hx hb dX4_playersAheadOf_73 rfl (lv_at hl 3 rfl) ?_
      obtain rfl := Option.some.inj h
      exact m_iret hx hb hr hlk V (Nat.zero_le _) (Nat.zero_le _) dX4_playersAheadOf_74
    · replace h := ite_f hc33 h
      refine lv_aload_n hx hb dX4_playersAheadOf_20 rfl (lv_at hl 0 rfl) ?_
      refine lv_iload hx hb dX4_playersAheadOf_21 (lv_at hl 4 rfl) ?_
      obtain ⟨q34, hq34, h⟩ := bd_s h
      cases ho37 : q34.1 with
      | inl r35 =>
        replace h := oCase_l ho37 h
        obtain ⟨hg38, h⟩ := gd_s h
        refine kSS (As := [.int v4]) (rest := []) ⟨hx, hb, hml, hown, hts⟩ Z V (mOr_plain ho37 (c_X4_playerAt (l := l) (D := D) (y := y) (ad := ad) hstk hq34)) (cwV 1 hts gX4_playersAheadOf_X4_playerAt rfl rfl rfl (by decide +kernel) ⟨Nat.le_of_ble_eq_true rfl, Nat.le_of_ble_eq_true rfl⟩) (by omega) (mS_T y ad _) rfl rfl hl.1 rfl (Nat.le_of_ble_eq_true rfl) ⟨Nat.zero_le _, Nat.zero_le _⟩ rfl dX4_playersAheadOf_23 (fun H locs V => ?_)
        refine lv_astore (lv' := [(5, .ref (ad (4 + r35))), (0, .ref (ad 0)), (1, .int a1), (2, .ref (ad (4 + v2))), (3, .int v3), (4, .int v4)]) hx hb dX4_playersAheadOf_26 hl (by decide) rfl (fun ls hl => ?_)
        refine lv_iload hx hb dX4_playersAheadOf_28 (lv_at hl 5 rfl) ?_
        refine lv_iload_n hx hb dX4_playersAheadOf_30 rfl (lv_at hl 2 rfl) ?_
        refine lv_icmp_ge (tgt := 47) hx hb dX4_playersAheadOf_31 (by decide) (fun hc39 => ?_) (fun hc39 => ?_)
        · replace h := ite_t hc39 h
          exact w_X4_playersAheadOf_47 hstk Z hB ih _ _ _ _ _ h _ _ _ V (lv_sub hl [1, 2, 3, 4, 5, 0] rfl)
        · replace h := ite_f hc39 h
          refine lv_aload_n hx hb dX4_playersAheadOf_34 rfl (lv_at hl 3 rfl) ?_
          refine lv_aload hx hb dX4_playersAheadOf_35 (lv_at hl 0 rfl) ?_
          obtain ⟨q40, hq40, h⟩ := bd_s h
          refine kSS (As := [.ref (ad (4 + r35))]) (rest := []) ⟨hx, hb, hml, hown, hts⟩ Z V (c_X2_leads (l := l) (D := D) (y := y) (ad := ad) hstk hq40) (cwV 1 hts gX4_playersAheadOf_X2_leads rfl rfl rfl (by decide +kernel) ⟨Nat.le_of_ble_eq_true rfl, Nat.le_of_ble_eq_true rfl⟩) (by omega) (mS_P y ad _ hg32) rfl rfl hl.1 rfl (Nat.le_of_ble_eq_true rfl) ⟨Nat.zero_le _, Nat.zero_le _⟩ rfl dX4_playersAheadOf_37 (fun H locs V => ?_)
          refine lv_if_ne (tgt := 47) hx hb dX4_playersAheadOf_40 (by decide) (fun hc41 => ?_) (fun hc41 => ?_)
          · replace h := ite_f hc41 h
            exact w_X4_playersAheadOf_47 hstk Z hB ih _ _ _ _ _ h _ _ _ V (lv_sub hl [1, 2, 3, 4, 5, 0] rfl)
          · replace h := ite_t hc41 h
            refine lv_iconst (v := 1) hx hb dX4_playersAheadOf_43 (by decide) ?_
            refine lv_goto (tgt := 48) hx hb dX4_playersAheadOf_44 (by decide) ?_
            exact w_X4_playersAheadOf_48 hstk Z hB ih _ _ _ _ _ _ h _ _ _ V (lv_sub hl [1, 2, 3, 4, 5, 0] rfl)
      | inr e36 =>
        exact nomatch (oCase_r ho37 h)
def f_X4_playersAheadOf (N : Nat) (σ : mSt) (a1 : Int32) : Option (Int32 × mSt) := (f_X4_playerAt N σ a1).bind fun q42 => oCase q42.1 (fun r43 => if r43 < 8 then f_X4_playersAheadOf_11 N a1 N q42.2 r43 0 0 else none) (fun _ => none)
set_option maxHeartbeats 4000000 in
set_option maxRecDepth 100000 in
theorem c_X4_playersAheadOf {l : Launch} {D : va_G} {y : Nat → ClassId} {ad : Nat → Nat} {N : Nat} {σ : mSt} {a1 : Int32} {q : Int32 × mSt} (hstk : l.stackTraces = false) (h : f_X4_playersAheadOf N σ a1 = some q) : mC l yX4_playersAheadOf wsX4_playersAheadOf { frames := 7, cells := 0, slots := 0, locals := 103 } D y 80 ad mZ (mS y ad σ) [.ref (ad 0), .int a1] (some (.int q.1)) (mS y ad q.2) 0 0 := by
  refine m_start (cc := cX4_playersAheadOf) (maxL := 7) (ret := (some .int)) (by decide) rfl (Nat.le_of_ble_eq_true rfl) (fun p e s m args below meth c ls hB _ V Z hl => ?_)
  obtain ⟨hx, hb, hml, hown, hts, hr, hlk⟩ := id hB
  have hl : lv_has ls 7 [(0, .ref (ad 0)), (1, .int a1)] := hl
  rw [f_X4_playersAheadOf] at h
  refine lv_aload_n hx hb dX4_playersAheadOf_0 rfl (lv_at hl 0 rfl) ?_
  refine lv_iload_n hx hb dX4_playersAheadOf_1 rfl (lv_at hl 1 rfl) ?_
  obtain ⟨q42, hq42, h⟩ := bd_s h
  cases ho45 : q42.1 with
  | inl r43 =>
    replace h := oCase_l ho45 h
    obtain ⟨hg46, h⟩ := gd_s h
    refine kSS (As := [.int a1]) (rest := []) ⟨hx, hb, hml, hown, hts⟩ Z V (mOr_plain ho45 (c_X4_playerAt (l := l) (D := D) (y := y) (ad := ad) hstk hq42)) (cwV 1 hts gX4_playersAheadOf_X4_playerAt rfl rfl rfl (by decide +kernel) ⟨Nat.le_of_ble_eq_true rfl, Nat.le_of_ble_eq_true rfl⟩) (by omega) (mS_T y ad _) rfl rfl hl.1 rfl (Nat.le_of_ble_eq_true rfl) ⟨Nat.zero_le _, Nat.zero_le _⟩ rfl dX4_playersAheadOf_2 (fun H locs V => ?_)
    refine lv_astore_n (lv' := [(2, .ref (ad (4 + r43))), (0, .ref (ad 0)), (1, .int a1)]) hx hb dX4_playersAheadOf_5 rfl hl (by decide) rfl (fun ls hl => ?_)
    refine lv_iconst (v := 0) hx hb dX4_playersAheadOf_6 (by decide) ?_
    refine lv_istore_n (lv' := [(3, .int 0), (2, .ref (ad (4 + r43))), (0, .ref (ad 0)), (1, .int a1)]) hx hb dX4_playersAheadOf_7 rfl hl (by decide) rfl (fun ls hl => ?_)
    refine lv_iconst (v := 0) hx hb dX4_playersAheadOf_8 (by decide) ?_
    refine lv_istore (lv' := [(4, .int 0), (3, .int 0), (2, .ref (ad (4 + r43))), (0, .ref (ad 0)), (1, .int a1)]) hx hb dX4_playersAheadOf_9 hl (by decide) rfl (fun ls hl => ?_)
    exact w_X4_playersAheadOf_11 hstk Z hB _ _ _ _ _ h _ _ _ V (lv_sub hl [3, 4, 2, 1, 0] rfl)
  | inr e44 =>
    exact nomatch (oCase_r ho45 h)
-- X4_stop
def f_X4_stop (N : Nat) (σ : mSt) (a1 : Nat) : Option (Unit × mSt) := if a1 < 16 then (f_X4_playerAt N σ (σ 18 (2 * a1))).bind fun q13 => oCase q13.1 (fun r14 => if r14 < 8 then (f_X4_playerAt N (mUp q13.2 0 r14 ((q13.2 0 r14) + (q13.2 13 a1))) ((mUp q13.2 0 r14 ((q13.2 0 r14) + (q13.2 13 a1))) 18 (2 * a1 + 1))).bind fun q18 => oCase q18.1 (fun r19 => if r19 < 8 then some ((), (mUp (mUp q18.2 0 r19 ((q18.2 0 r19) + (q18.2 13 a1))) 17 a1 3)) else none) (fun _ => none) else none) (fun _ => none) else none
set_option maxHeartbeats 4000000 in
set_option maxRecDepth 100000 in
theorem c_X4_stop {l : Launch} {D : va_G} {y : Nat → ClassId} {ad : Nat → Nat} {N : Nat} {σ : mSt} {a1 : Nat} {q : Unit × mSt} (hstk : l.stackTraces = false) (h : f_X4_stop N σ a1 = some q) : mC l yX4_stop wsX4_stop { frames := 7, cells := 0, slots := 0, locals := 103 } D y 80 ad mZ (mS y ad σ) [.ref (ad 0), .ref (ad (32 + a1))] none (mS y ad q.2) 0 0 := by
  refine m_start (cc := cX4_stop) (maxL := 2) (ret := none) (by decide) rfl (Nat.le_of_ble_eq_true rfl) (fun p e s m args below meth c ls hB _ V Z hl => ?_)
  obtain ⟨hx, hb, hml, hown, hts, hr, hlk⟩ := id hB
  have hl : lv_has ls 2 [(0, .ref (ad 0)), (1, .ref (ad (32 + a1)))] := hl
  rw [f_X4_stop] at h
  obtain ⟨hg12, h⟩ := gd_s h
  refine lv_aload_n hx hb dX4_stop_0 rfl (lv_at hl 0 rfl) ?_
  refine lv_aload_n hx hb dX4_stop_1 rfl (lv_at hl 1 rfl) ?_
  refine sS_w hx hb hts hown (fun _ h => List.mem_cons_of_mem _ (List.mem_append_left _ (List.mem_append_left _ (List.mem_append_left _ (List.mem_append_left _ (List.mem_append_right _ h)))))) V hg12 (hts _ (List.mem_of_getElem? (i := 1) rfl)) dX4_stop_2 ?_
  refine gS_S hx hb hts hown (fun _ h => List.mem_cons_of_mem _ (List.mem_append_left _ (List.mem_append_left _ (List.mem_append_left _ (List.mem_append_right _ h))))) V (show 2 * a1 < 32 by have := hg12; omega) 0 18 (by decide) rfl (hts _ (List.mem_of_getElem? (i := 2) rfl)) dX4_stop_5 ?_
  obtain ⟨q13, hq13, h⟩ := bd_s h
  cases ho16 : q13.1 with
  | inl r14 =>
    replace h := oCase_l ho16 h
    obtain ⟨hg17, h⟩ := gd_s h
    refine kSS (As := [.int (σ 18 (2 * a1))]) (rest := []) ⟨hx, hb, hml, hown, hts⟩ Z V (mOr_plain ho16 (c_X4_playerAt (l := l) (D := D) (y := y) (ad := ad) hstk hq13)) (cwV 1 hts gX4_stop_X4_playerAt rfl rfl rfl (by decide +kernel) ⟨Nat.le_of_ble_eq_true rfl, Nat.le_of_ble_eq_true rfl⟩) (by omega) (mS_T y ad _) rfl rfl hl.1 rfl (Nat.le_of_ble_eq_true rfl) ⟨Nat.zero_le _, Nat.zero_le _⟩ rfl dX4_stop_8 (fun H locs V => ?_)
    refine lv_dup hx hb dX4_stop_11 rfl ?_
    refine gS_P hx hb hts hown (fun _ h => List.mem_cons_of_mem _ (List.mem_append_left _ (List.mem_append_left _ (List.mem_append_right _ h)))) V hg17 0 0 (by decide) rfl (hts _ (List.mem_of_getElem? (i := 3) rfl)) dX4_stop_12 ?_
    refine lv_aload_n hx hb dX4_stop_15 rfl (lv_at hl 1 rfl) ?_
    refine gS_G hx hb hts hown (fun _ h => List.mem_cons_of_mem _ (List.mem_append_left _ (List.mem_append_left _ (List.mem_append_left _ (List.mem_append_left _ (List.mem_append_right _ h)))))) V hg12 3 13 (by decide) rfl (hts _ (List.mem_of_getElem? (i := 4) rfl)) dX4_stop_16 ?_
    refine lv_iadd hx hb dX4_stop_19 ?_
    refine pS_P hx hb hts hown (fun _ h => List.mem_cons_of_mem _ (List.mem_append_left _ (List.mem_append_left _ (List.mem_append_right _ h)))) V hg17 0 0 (by decide) rfl (hts _ (List.mem_of_getElem? (i := 3) rfl)) dX4_stop_20 (fun H locs V => ?_)
    refine lv_aload_n hx hb dX4_stop_23 rfl (lv_at hl 0 rfl) ?_
    refine lv_aload_n hx hb dX4_stop_24 rfl (lv_at hl 1 rfl) ?_
    refine sS_b hx hb hts hown (fun _ h => List.mem_cons_of_mem _ (List.mem_append_left _ (List.mem_append_left _ (List.mem_append_left _ (List.mem_append_left _ (List.mem_append_right _ h)))))) V hg12 (hts _ (List.mem_of_getElem? (i := 5) rfl)) dX4_stop_25 ?_
    refine gS_S hx hb hts hown (fun _ h => List.mem_cons_of_mem _ (List.mem_append_left _ (List.mem_append_left _ (List.mem_append_left _ (List.mem_append_right _ h))))) V (show 2 * a1 + 1 < 32 by have := hg12; omega) 0 18 (by decide) rfl (hts _ (List.mem_of_getElem? (i := 2) rfl)) dX4_stop_28 ?_
    obtain ⟨q18, hq18, h⟩ := bd_s h
    cases ho21 : q18.1 with
    | inl r19 =>
      replace h := oCase_l ho21 h
      obtain ⟨hg22, h⟩ := gd_s h
      refine kSS (As := [.int ((mUp q13.2 0 r14 ((q13.2 0 r14) + (q13.2 13 a1))) 18 (2 * a1 + 1))]) (rest := []) ⟨hx, hb, hml, hown, hts⟩ Z V (mOr_plain ho21 (c_X4_playerAt (l := l) (D := D) (y := y) (ad := ad) hstk hq18)) (cwV 1 hts gX4_stop_X4_playerAt rfl rfl rfl (by decide +kernel) ⟨Nat.le_of_ble_eq_true rfl, Nat.le_of_ble_eq_true rfl⟩) (by omega) (mS_T y ad _) rfl rfl hl.1 rfl (Nat.le_of_ble_eq_true rfl) ⟨Nat.zero_le _, Nat.zero_le _⟩ rfl dX4_stop_31 (fun H locs V => ?_)
      refine lv_dup hx hb dX4_stop_34 rfl ?_
      refine gS_P hx hb hts hown (fun _ h => List.mem_cons_of_mem _ (List.mem_append_left _ (List.mem_append_left _ (List.mem_append_right _ h)))) V hg22 0 0 (by decide) rfl (hts _ (List.mem_of_getElem? (i := 3) rfl)) dX4_stop_35 ?_
      refine lv_aload_n hx hb dX4_stop_38 rfl (lv_at hl 1 rfl) ?_
      refine gS_G hx hb hts hown (fun _ h => List.mem_cons_of_mem _ (List.mem_append_left _ (List.mem_append_left _ (List.mem_append_left _ (List.mem_append_left _ (List.mem_append_right _ h)))))) V hg12 3 13 (by decide) rfl (hts _ (List.mem_of_getElem? (i := 4) rfl)) dX4_stop_39 ?_
      refine lv_iadd hx hb dX4_stop_42 ?_
      refine pS_P hx hb hts hown (fun _ h => List.mem_cons_of_mem _ (List.mem_append_left _ (List.mem_append_left _ (List.mem_append_right _ h)))) V hg22 0 0 (by decide) rfl (hts _ (List.mem_of_getElem? (i := 3) rfl)) dX4_stop_43 (fun H locs V => ?_)
      refine lv_aload_n hx hb dX4_stop_46 rfl (lv_at hl 1 rfl) ?_
      refine lv_iconst (v := 3) hx hb dX4_stop_47 (by decide) ?_
      refine pS_G hx hb hts hown (fun _ h => List.mem_cons_of_mem _ (List.mem_append_left _ (List.mem_append_left _ (List.mem_append_left _ (List.mem_append_left _ (List.mem_append_right _ h)))))) V hg12 7 17 (by decide) rfl (hts _ (List.mem_of_getElem? (i := 6) rfl)) dX4_stop_48 (fun H locs V => ?_)
      obtain rfl := Option.some.inj h
      exact m_vret hx hb hr hlk V (Nat.zero_le _) (Nat.zero_le _) dX4_stop_51
    | inr e20 =>
      exact nomatch (oCase_r ho21 h)
  | inr e15 =>
    exact nomatch (oCase_r ho16 h)
-- X4_awardTo
def f_X4_awardTo (N : Nat) (σ : mSt) (a1 : Nat) (a2 : Int32) : Option (Int32 × mSt) := if a1 < 16 then (f_X0_sideAt N σ a1 a2).bind fun q18 => if q18.1 < 32 then (f_X4_playerAt N q18.2 (q18.2 18 q18.1)).bind fun q20 => oCase q20.1 (fun r21 => if r21 < 8 then (f_X0_sideAt N q20.2 a1 (1 - a2)).bind fun q25 => if q25.1 < 32 then (f_X4_playerAt N q25.2 (q25.2 18 q25.1)).bind fun q27 => oCase q27.1 (fun r28 => if r28 < 8 then if a2 = 0 then some ((2 * (q27.2 13 a1)) - ((2 * (q27.2 13 a1)) / 10), (mUp (mUp (mUp (mUp (mUp q27.2 0 r21 ((q27.2 0 r21) + ((2 * (q27.2 13 a1)) - ((2 * (q27.2 13 a1)) / 10)))) 26 0 (((mUp q27.2 0 r21 ((q27.2 0 r21) + ((2 * (q27.2 13 a1)) - ((2 * (q27.2 13 a1)) / 10)))) 26 0) + ((2 * (q27.2 13 a1)) / 10))) 2 r21 (((mUp (mUp q27.2 0 r21 ((q27.2 0 r21) + ((2 * (q27.2 13 a1)) - ((2 * (q27.2 13 a1)) / 10)))) 26 0 (((mUp q27.2 0 r21 ((q27.2 0 r21) + ((2 * (q27.2 13 a1)) - ((2 * (q27.2 13 a1)) / 10)))) 26 0) + ((2 * (q27.2 13 a1)) / 10))) 2 r21) + 1)) 3 r28 (((mUp (mUp (mUp q27.2 0 r21 ((q27.2 0 r21) + ((2 * (q27.2 13 a1)) - ((2 * (q27.2 13 a1)) / 10)))) 26 0 (((mUp q27.2 0 r21 ((q27.2 0 r21) + ((2 * (q27.2 13 a1)) - ((2 * (q27.2 13 a1)) / 10)))) 26 0) + ((2 * (q27.2 13 a1)) / 10))) 2 r21 (((mUp (mUp q27.2 0 r21 ((q27.2 0 r21) + ((2 * (q27.2 13 a1)) - ((2 * (q27.2 13 a1)) / 10)))) 26 0 (((mUp q27.2 0 r21 ((q27.2 0 r21) + ((2 * (q27.2 13 a1)) - ((2 * (q27.2 13 a1)) / 10)))) 26 0) + ((2 * (q27.2 13 a1)) / 10))) 2 r21) + 1)) 3 r28) + 1)) 17 a1 1)) else some ((2 * (q27.2 13 a1)) - ((2 * (q27.2 13 a1)) / 10), (mUp (mUp (mUp (mUp (mUp q27.2 0 r21 ((q27.2 0 r21) + ((2 * (q27.2 13 a1)) - ((2 * (q27.2 13 a1)) / 10)))) 26 0 (((mUp q27.2 0 r21 ((q27.2 0 r21) + ((2 * (q27.2 13 a1)) - ((2 * (q27.2 13 a1)) / 10)))) 26 0) + ((2 * (q27.2 13 a1)) / 10))) 2 r21 (((mUp (mUp q27.2 0 r21 ((q27.2 0 r21) + ((2 * (q27.2 13 a1)) - ((2 * (q27.2 13 a1)) / 10)))) 26 0 (((mUp q27.2 0 r21 ((q27.2 0 r21) + ((2 * (q27.2 13 a1)) - ((2 * (q27.2 13 a1)) / 10)))) 26 0) + ((2 * (q27.2 13 a1)) / 10))) 2 r21) + 1)) 3 r28 (((mUp (mUp (mUp q27.2 0 r21 ((q27.2 0 r21) + ((2 * (q27.2 13 a1)) - ((2 * (q27.2 13 a1)) / 10)))) 26 0 (((mUp q27.2 0 r21 ((q27.2 0 r21) + ((2 * (q27.2 13 a1)) - ((2 * (q27.2 13 a1)) / 10)))) 26 0) + ((2 * (q27.2 13 a1)) / 10))) 2 r21 (((mUp (mUp q27.2 0 r21 ((q27.2 0 r21) + ((2 * (q27.2 13 a1)) - ((2 * (q27.2 13 a1)) / 10)))) 26 0 (((mUp q27.2 0 r21 ((q27.2 0 r21) + ((2 * (q27.2 13 a1)) - ((2 * (q27.2 13 a1)) / 10)))) 26 0) + ((2 * (q27.2 13 a1)) / 10))) 2 r21) + 1)) 3 r28) + 1)) 17 a1 2)) else none) (fun _ => none) else none else none) (fun _ => none) else none else none
set_option maxHeartbeats 4000000 in
set_option maxRecDepth 100000 in
theorem c_X4_awardTo {l : Launch} {D : va_G} {y : Nat → ClassId} {ad : Nat → Nat} {N : Nat} {σ : mSt} {a1 : Nat} {a2 : Int32} {q : Int32 × mSt} (hstk : l.stackTraces = false) (h : f_X4_awardTo N σ a1 a2 = some q) : mC l yX4_awardTo wsX4_awardTo { frames := 7, cells := 0, slots := 0, locals := 103 } D y 80 ad mZ (mS y ad σ) [.ref (ad 0), .ref (ad (32 + a1)), .int a2] (some (.int q.1)) (mS y ad q.2) 0 0 := by
  refine m_start (cc := cX4_awardTo) (maxL := 7) (ret := (some .int)) (by decide) rfl (Nat.le_of_ble_eq_true rfl) (fun p e s m args below meth c ls hB _ V Z hl => ?_)
  obtain ⟨hx, hb, hml, hown, hts, hr, hlk⟩ := id hB
  have hl : lv_has ls 7 [(0, .ref (ad 0)), (1, .ref (ad (32 + a1))), (2, .int a2)] := hl
  rw [f_X4_awardTo] at h
  obtain ⟨hg17, h⟩ := gd_s h
  refine lv_aload_n hx hb dX4_awardTo_0 rfl (lv_at hl 0 rfl) ?_
  refine lv_aload_n hx hb dX4_awardTo_1 rfl (lv_at hl 1 rfl) ?_
  refine lv_iload_n hx hb dX4_awardTo_2 rfl (lv_at hl 2 rfl) ?_
  obtain ⟨q18, hq18, h⟩ := bd_s h
  obtain ⟨hg19, h⟩ := gd_s h
  refine kSS (As := [.int a2]) (rest := [.ref (ad 0)]) ⟨hx, hb, hml, hown, hts⟩ Z V (c_X0_sideAt (l := l) (D := D) (y := y) (ad := ad) hstk hq18) (cwV 1 hts gX4_awardTo_X0_sideAt rfl rfl rfl (by decide +kernel) ⟨Nat.le_of_ble_eq_true rfl, Nat.le_of_ble_eq_true rfl⟩) (by omega) (mS_G y ad _ hg17) rfl rfl hl.1 rfl (Nat.le_of_ble_eq_true rfl) ⟨Nat.zero_le _, Nat.zero_le _⟩ rfl dX4_awardTo_3 (fun H locs V => ?_)
  refine gS_S hx hb hts hown (fun _ h => List.mem_cons_of_mem _ (List.mem_append_left _ (List.mem_append_left _ (List.mem_append_left _ (List.mem_append_left _ (List.mem_append_right _ h)))))) V hg19 0 18 (by decide) rfl (hts _ (List.mem_of_getElem? (i := 1) rfl)) dX4_awardTo_6 ?_
  obtain ⟨q20, hq20, h⟩ := bd_s h
  cases ho23 : q20.1 with
  | inl r21 =>
    replace h := oCase_l ho23 h
    obtain ⟨hg24, h⟩ := gd_s h
    refine kSS (As := [.int (q18.2 18 q18.1)]) (rest := []) ⟨hx, hb, hml, hown, hts⟩ Z V (mOr_plain ho23 (c_X4_playerAt (l := l) (D := D) (y := y) (ad := ad) hstk hq20)) (cwV 1 hts gX4_awardTo_X4_playerAt rfl rfl rfl (by decide +kernel) ⟨Nat.le_of_ble_eq_true rfl, Nat.le_of_ble_eq_true rfl⟩) (by omega) (mS_T y ad _) rfl rfl hl.1 rfl (Nat.le_of_ble_eq_true rfl) ⟨Nat.zero_le _, Nat.zero_le _⟩ rfl dX4_awardTo_9 (fun H locs V => ?_)
    refine lv_astore_n (lv' := [(3, .ref (ad (4 + r21))), (0, .ref (ad 0)), (1, .ref (ad (32 + a1))), (2, .int a2)]) hx hb dX4_awardTo_12 rfl hl (by decide) rfl (fun ls hl => ?_)
    refine lv_aload_n hx hb dX4_awardTo_13 rfl (lv_at hl 1 rfl) ?_
    refine lv_aload_n hx hb dX4_awardTo_14 rfl (lv_at hl 2 rfl) ?_
    refine lv_iconst (v := 1) hx hb dX4_awardTo_15 (by decide) ?_
    refine lv_iload_n hx hb dX4_awardTo_16 rfl (lv_at hl 3 rfl) ?_
    refine lv_isub hx hb dX4_awardTo_17 ?_
    obtain ⟨q25, hq25, h⟩ := bd_s h
    obtain ⟨hg26, h⟩ := gd_s h
    refine kSS (As := [.int (1 - a2)]) (rest := [.ref (ad 0)]) ⟨hx, hb, hml, hown, hts⟩ Z V (c_X0_sideAt (l := l) (D := D) (y := y) (ad := ad) hstk hq25) (cwV 1 hts gX4_awardTo_X0_sideAt rfl rfl rfl (by decide +kernel) ⟨Nat.le_of_ble_eq_true rfl, Nat.le_of_ble_eq_true rfl⟩) (by omega) (mS_G y ad _ hg17) rfl rfl hl.1 rfl (Nat.le_of_ble_eq_true rfl) ⟨Nat.zero_le _, Nat.zero_le _⟩ rfl dX4_awardTo_18 (fun H locs V => ?_)
    refine gS_S hx hb hts hown (fun _ h => List.mem_cons_of_mem _ (List.mem_append_left _ (List.mem_append_left _ (List.mem_append_left _ (List.mem_append_left _ (List.mem_append_right _ h)))))) V hg26 0 18 (by decide) rfl (hts _ (List.mem_of_getElem? (i := 1) rfl)) dX4_awardTo_21 ?_
    obtain ⟨q27, hq27, h⟩ := bd_s h
    cases ho30 : q27.1 with
    | inl r28 =>
      replace h := oCase_l ho30 h
      obtain ⟨hg31, h⟩ := gd_s h
      refine kSS (As := [.int (q25.2 18 q25.1)]) (rest := []) ⟨hx, hb, hml, hown, hts⟩ Z V (mOr_plain ho30 (c_X4_playerAt (l := l) (D := D) (y := y) (ad := ad) hstk hq27)) (cwV 1 hts gX4_awardTo_X4_playerAt rfl rfl rfl (by decide +kernel) ⟨Nat.le_of_ble_eq_true rfl, Nat.le_of_ble_eq_true rfl⟩) (by omega) (mS_T y ad _) rfl rfl hl.1 rfl (Nat.le_of_ble_eq_true rfl) ⟨Nat.zero_le _, Nat.zero_le _⟩ rfl dX4_awardTo_24 (fun H locs V => ?_)
      refine lv_astore (lv' := [(4, .ref (ad (4 + r28))), (3, .ref (ad (4 + r21))), (0, .ref (ad 0)), (1, .ref (ad (32 + a1))), (2, .int a2)]) hx hb dX4_awardTo_27 hl (by decide) rfl (fun ls hl => ?_)
      refine lv_iconst (v := 2) hx hb dX4_awardTo_29 (by decide) ?_
      refine lv_aload_n hx hb dX4_awardTo_30 rfl (lv_at hl 3 rfl) ?_
      refine gS_G hx hb hts hown (fun _ h => List.mem_cons_of_mem _ (List.mem_append_left _ (List.mem_append_left _ (List.mem_append_left _ (List.mem_append_right _ h))))) V hg17 3 13 (by decide) rfl (hts _ (List.mem_of_getElem? (i := 2) rfl)) dX4_awardTo_31 ?_
      refine lv_imul hx hb dX4_awardTo_34 ?_
      refine lv_istore (lv' := [(5, .int (2 * (q27.2 13 a1))), (4, .ref (ad (4 + r28))), (3, .ref (ad (4 + r21))), (0, .ref (ad 0)), (1, .ref (ad (32 + a1))), (2, .int a2)]) hx hb dX4_awardTo_35 hl (by decide) rfl (fun ls hl => ?_)
      refine lv_iload hx hb dX4_awardTo_37 (lv_at hl 0 rfl) ?_
      refine lv_bipush (v := 10) hx hb dX4_awardTo_39 (by decide) ?_
      refine lv_idiv hx hb dX4_awardTo_41 (by decide) ?_
      refine lv_istore (lv' := [(6, .int ((2 * (q27.2 13 a1)) / 10)), (5, .int (2 * (q27.2 13 a1))), (4, .ref (ad (4 + r28))), (3, .ref (ad (4 + r21))), (0, .ref (ad 0)), (1, .ref (ad (32 + a1))), (2, .int a2)]) hx hb dX4_awardTo_42 hl (by decide) rfl (fun ls hl => ?_)
      refine lv_aload_n hx hb dX4_awardTo_44 rfl (lv_at hl 3 rfl) ?_
      refine lv_dup hx hb dX4_awardTo_45 rfl ?_
      refine gS_P hx hb hts hown (fun _ h => List.mem_cons_of_mem _ (List.mem_append_left _ (List.mem_append_left _ (List.mem_append_right _ h)))) V hg24 0 0 (by decide) rfl (hts _ (List.mem_of_getElem? (i := 3) rfl)) dX4_awardTo_46 ?_
      refine lv_iload hx hb dX4_awardTo_49 (lv_at hl 1 rfl) ?_
      refine lv_iload hx hb dX4_awardTo_51 (lv_at hl 0 rfl) ?_
      refine lv_isub hx hb dX4_awardTo_53 ?_
      refine lv_iadd hx hb dX4_awardTo_54 ?_
      refine pS_P hx hb hts hown (fun _ h => List.mem_cons_of_mem _ (List.mem_append_left _ (List.mem_append_left _ (List.mem_append_right _ h)))) V hg24 0 0 (by decide) rfl (hts _ (List.mem_of_getElem? (i := 3) rfl)) dX4_awardTo_55 (fun H locs V => ?_)
      refine lv_aload_n hx hb dX4_awardTo_58 rfl (lv_at hl 4 rfl) ?_
      refine lv_dup hx hb dX4_awardTo_59 rfl ?_
      refine gS_T hx hb hts hown (fun _ h => List.mem_cons_of_mem _ (List.mem_append_left _ (List.mem_append_right _ h))) V 5 26 (by decide) rfl (hts _ (List.mem_of_getElem? (i := 4) rfl)) dX4_awardTo_60 ?_
      refine lv_iload hx hb dX4_awardTo_63 (lv_at hl 0 rfl) ?_
      refine lv_iadd hx hb dX4_awardTo_65 ?_
      refine pS_T hx hb hts hown (fun _ h => List.mem_cons_of_mem _ (List.mem_append_left _ (List.mem_append_right _ h))) V 5 26 (by decide) rfl (hts _ (List.mem_of_getElem? (i := 4) rfl)) dX4_awardTo_66 (fun H locs V => ?_)
      refine lv_aload_n hx hb dX4_awardTo_69 rfl (lv_at hl 3 rfl) ?_
      refine lv_dup hx hb dX4_awardTo_70 rfl ?_
      refine gS_P hx hb hts hown (fun _ h => List.mem_cons_of_mem _ (List.mem_append_left _ (List.mem_append_left _ (List.mem_append_right _ h)))) V hg24 2 2 (by decide) rfl (hts _ (List.mem_of_getElem? (i := 5) rfl)) dX4_awardTo_71 ?_
      refine lv_iconst (v := 1) hx hb dX4_awardTo_74 (by decide) ?_
      refine lv_iadd hx hb dX4_awardTo_75 ?_
      refine pS_P hx hb hts hown (fun _ h => List.mem_cons_of_mem _ (List.mem_append_left _ (List.mem_append_left _ (List.mem_append_right _ h)))) V hg24 2 2 (by decide) rfl (hts _ (List.mem_of_getElem? (i := 5) rfl)) dX4_awardTo_76 (fun H locs V => ?_)
      refine lv_aload hx hb dX4_awardTo_79 (lv_at hl 2 rfl) ?_
      refine lv_dup hx hb dX4_awardTo_81 rfl ?_
      refine gS_P hx hb hts hown (fun _ h => List.mem_cons_of_mem _ (List.mem_append_left _ (List.mem_append_left _ (List.mem_append_right _ h)))) V hg31 3 3 (by decide) rfl (hts _ (List.mem_of_getElem? (i := 6) rfl)) dX4_awardTo_82 ?_
      refine lv_iconst (v := 1) hx hb dX4_awardTo_85 (by decide) ?_
      refine lv_iadd hx hb dX4_awardTo_86 ?_
      refine pS_P hx hb hts hown (fun _ h => List.mem_cons_of_mem _ (List.mem_append_left _ (List.mem_append_left _ (List.mem_append_right _ h)))) V hg31 3 3 (by decide) rfl (hts _ (List.mem_of_getElem? (i := 6) rfl)) dX4_awardTo_87 (fun H locs V => ?_)
      refine lv_aload_n hx hb dX4_awardTo_90 rfl (lv_at hl 5 rfl) ?_
      refine lv_iload_n hx hb dX4_awardTo_91 rfl (lv_at hl 6 rfl) ?_
      refine lv_if_ne (tgt := 99) hx hb dX4_awardTo_92 (by decide) (fun hc32 => ?_) (fun hc32 => ?_)
      · replace h := ite_f hc32 h
        refine lv_iconst (v := 2) hx hb dX4_awardTo_99 (by decide) ?_
        refine pS_G hx hb hts hown (fun _ h => List.mem_cons_of_mem _ (List.mem_append_left _ (List.mem_append_left _ (List.mem_append_left _ (List.mem_append_right _ h))))) V hg17 7 17 (by decide) rfl (hts _ (List.mem_of_getElem? (i := 7) rfl)) dX4_awardTo_100 (fun H locs V => ?_)
        refine lv_iload hx hb dX4_awardTo_103 (lv_at hl 1 rfl) ?_
        refine lv_iload hx hb dX4_awardTo_105 (lv_at hl 0 rfl) ?_
        refine lv_isub hx hb dX4_awardTo_107 ?_
        obtain rfl := Option.some.inj h
        exact m_iret hx hb hr hlk V (Nat.zero_le _) (Nat.zero_le _) dX4_awardTo_108
      · replace h := ite_t hc32 h
        refine lv_iconst (v := 1) hx hb dX4_awardTo_95 (by decide) ?_
        refine lv_goto (tgt := 100) hx hb dX4_awardTo_96 (by decide) ?_
        refine pS_G hx hb hts hown (fun _ h => List.mem_cons_of_mem _ (List.mem_append_left _ (List.mem_append_left _ (List.mem_append_left _ (List.mem_append_right _ h))))) V hg17 7 17 (by decide) rfl (hts _ (List.mem_of_getElem? (i := 7) rfl)) dX4_awardTo_100 (fun H locs V => ?_)
        refine lv_iload hx hb dX4_awardTo_103 (lv_at hl 1 rfl) ?_
        refine lv_iload hx hb dX4_awardTo_105 (lv_at hl 0 rfl) ?_
        refine lv_isub hx hb dX4_awardTo_107 ?_
        obtain rfl := Option.some.inj h
        exact m_iret hx hb hr hlk V (Nat.zero_le _) (Nat.zero_le _) dX4_awardTo_108
    | inr e29 =>
      exact nomatch (oCase_r ho30 h)
  | inr e22 =>
    exact nomatch (oCase_r ho23 h)
-- X4_forgetWhatPassed
def f_X4_forgetWhatPassed (N : Nat) (σ : mSt)  : Option (Unit × mSt) := some ((), (mUp (mUp (mUp (mUp σ 28 0 0) 29 0 0) 30 0 (-1)) 31 0 (-1)))
set_option maxHeartbeats 4000000 in
set_option maxRecDepth 100000 in
theorem c_X4_forgetWhatPassed {l : Launch} {D : va_G} {y : Nat → ClassId} {ad : Nat → Nat} {N : Nat} {σ : mSt}  {q : Unit × mSt} (hstk : l.stackTraces = false) (h : f_X4_forgetWhatPassed N σ = some q) : mC l yX4_forgetWhatPassed wsX4_forgetWhatPassed { frames := 0, cells := 0, slots := 0, locals := 0 } D y 80 ad mZ (mS y ad σ) [.ref (ad 0)] none (mS y ad q.2) 0 0 := by
  refine m_start (cc := cX4_forgetWhatPassed) (maxL := 1) (ret := none) (by decide) rfl (Nat.le_of_ble_eq_true rfl) (fun p e s m args below meth c ls hB _ V Z hl => ?_)
  obtain ⟨hx, hb, hml, hown, hts, hr, hlk⟩ := id hB
  have hl : lv_has ls 1 [(0, .ref (ad 0))] := hl
  rw [f_X4_forgetWhatPassed] at h
  refine lv_aload_n hx hb dX4_forgetWhatPassed_0 rfl (lv_at hl 0 rfl) ?_
  refine lv_iconst (v := 0) hx hb dX4_forgetWhatPassed_1 (by decide) ?_
  refine pS_T hx hb hts hown (fun _ h => List.mem_cons_of_mem _ (List.mem_append_right _ h)) V 7 28 (by decide) rfl (hts _ (List.mem_of_getElem? (i := 1) rfl)) dX4_forgetWhatPassed_2 (fun H locs V => ?_)
  refine lv_aload_n hx hb dX4_forgetWhatPassed_5 rfl (lv_at hl 0 rfl) ?_
  refine lv_iconst (v := 0) hx hb dX4_forgetWhatPassed_6 (by decide) ?_
  refine pS_T hx hb hts hown (fun _ h => List.mem_cons_of_mem _ (List.mem_append_right _ h)) V 8 29 (by decide) rfl (hts _ (List.mem_of_getElem? (i := 2) rfl)) dX4_forgetWhatPassed_7 (fun H locs V => ?_)
  refine lv_aload_n hx hb dX4_forgetWhatPassed_10 rfl (lv_at hl 0 rfl) ?_
  refine lv_iconst (v := (-1)) hx hb dX4_forgetWhatPassed_11 (by decide) ?_
  refine pS_T hx hb hts hown (fun _ h => List.mem_cons_of_mem _ (List.mem_append_right _ h)) V 9 30 (by decide) rfl (hts _ (List.mem_of_getElem? (i := 3) rfl)) dX4_forgetWhatPassed_12 (fun H locs V => ?_)
  refine lv_aload_n hx hb dX4_forgetWhatPassed_15 rfl (lv_at hl 0 rfl) ?_
  refine lv_iconst (v := (-1)) hx hb dX4_forgetWhatPassed_16 (by decide) ?_
  refine pS_T hx hb hts hown (fun _ h => List.mem_cons_of_mem _ (List.mem_append_right _ h)) V 10 31 (by decide) rfl (hts _ (List.mem_of_getElem? (i := 4) rfl)) dX4_forgetWhatPassed_17 (fun H locs V => ?_)
  obtain rfl := Option.some.inj h
  exact m_vret hx hb hr hlk V (Nat.zero_le _) (Nat.zero_le _) dX4_forgetWhatPassed_20
-- X4_noteFall
def f_X4_noteFall (N : Nat) (σ : mSt) (a1 : Nat) : Option (Unit × mSt) := if a1 < 16 then if (σ 28 0) = 0 then some ((), (mUp (mUp (mUp σ 30 0 (σ 10 a1)) 31 0 ((mUp σ 30 0 (σ 10 a1)) 24 0)) 28 0 (((mUp (mUp σ 30 0 (σ 10 a1)) 31 0 ((mUp σ 30 0 (σ 10 a1)) 24 0)) 28 0) + 1))) else some ((), (mUp σ 28 0 ((σ 28 0) + 1))) else none
set_option maxHeartbeats 4000000 in
set_option maxRecDepth 100000 in
theorem c_X4_noteFall {l : Launch} {D : va_G} {y : Nat → ClassId} {ad : Nat → Nat} {N : Nat} {σ : mSt} {a1 : Nat} {q : Unit × mSt} (hstk : l.stackTraces = false) (h : f_X4_noteFall N σ a1 = some q) : mC l yX4_noteFall wsX4_noteFall { frames := 0, cells := 0, slots := 0, locals := 0 } D y 80 ad mZ (mS y ad σ) [.ref (ad 0), .ref (ad (32 + a1))] none (mS y ad q.2) 0 0 := by
  refine m_start (cc := cX4_noteFall) (maxL := 2) (ret := none) (by decide) rfl (Nat.le_of_ble_eq_true rfl) (fun p e s m args below meth c ls hB _ V Z hl => ?_)
  obtain ⟨hx, hb, hml, hown, hts, hr, hlk⟩ := id hB
  have hl : lv_has ls 2 [(0, .ref (ad 0)), (1, .ref (ad (32 + a1)))] := hl
  rw [f_X4_noteFall] at h
  obtain ⟨hg3, h⟩ := gd_s h
  refine lv_aload_n hx hb dX4_noteFall_0 rfl (lv_at hl 0 rfl) ?_
  refine gS_T hx hb hts hown (fun _ h => List.mem_cons_of_mem _ (List.mem_append_left _ (List.mem_append_right _ h))) V 7 28 (by decide) rfl (hts _ (List.mem_of_getElem? (i := 1) rfl)) dX4_noteFall_1 ?_
  refine lv_if_ne (tgt := 23) hx hb dX4_noteFall_4 (by decide) (fun hc4 => ?_) (fun hc4 => ?_)
  · replace h := ite_f hc4 h
    refine lv_aload_n hx hb dX4_noteFall_23 rfl (lv_at hl 0 rfl) ?_
    refine lv_dup hx hb dX4_noteFall_24 rfl ?_
    refine gS_T hx hb hts hown (fun _ h => List.mem_cons_of_mem _ (List.mem_append_left _ (List.mem_append_right _ h))) V 7 28 (by decide) rfl (hts _ (List.mem_of_getElem? (i := 1) rfl)) dX4_noteFall_25 ?_
    refine lv_iconst (v := 1) hx hb dX4_noteFall_28 (by decide) ?_
    refine lv_iadd hx hb dX4_noteFall_29 ?_
    refine pS_T hx hb hts hown (fun _ h => List.mem_cons_of_mem _ (List.mem_append_left _ (List.mem_append_right _ h))) V 7 28 (by decide) rfl (hts _ (List.mem_of_getElem? (i := 1) rfl)) dX4_noteFall_30 (fun H locs V => ?_)
    obtain rfl := Option.some.inj h
    exact m_vret hx hb hr hlk V (Nat.zero_le _) (Nat.zero_le _) dX4_noteFall_33
  · replace h := ite_t hc4 h
    refine lv_aload_n hx hb dX4_noteFall_7 rfl (lv_at hl 0 rfl) ?_
    refine lv_aload_n hx hb dX4_noteFall_8 rfl (lv_at hl 1 rfl) ?_
    refine gS_G hx hb hts hown (fun _ h => List.mem_cons_of_mem _ (List.mem_append_right _ h)) V hg3 0 10 (by decide) rfl (hts _ (List.mem_of_getElem? (i := 2) rfl)) dX4_noteFall_9 ?_
    refine pS_T hx hb hts hown (fun _ h => List.mem_cons_of_mem _ (List.mem_append_left _ (List.mem_append_right _ h))) V 9 30 (by decide) rfl (hts _ (List.mem_of_getElem? (i := 3) rfl)) dX4_noteFall_12 (fun H locs V => ?_)
    refine lv_aload_n hx hb dX4_noteFall_15 rfl (lv_at hl 0 rfl) ?_
    refine lv_aload_n hx hb dX4_noteFall_16 rfl (lv_at hl 0 rfl) ?_
    refine gS_T hx hb hts hown (fun _ h => List.mem_cons_of_mem _ (List.mem_append_left _ (List.mem_append_right _ h))) V 3 24 (by decide) rfl (hts _ (List.mem_of_getElem? (i := 4) rfl)) dX4_noteFall_17 ?_
    refine pS_T hx hb hts hown (fun _ h => List.mem_cons_of_mem _ (List.mem_append_left _ (List.mem_append_right _ h))) V 10 31 (by decide) rfl (hts _ (List.mem_of_getElem? (i := 5) rfl)) dX4_noteFall_20 (fun H locs V => ?_)
    refine lv_aload_n hx hb dX4_noteFall_23 rfl (lv_at hl 0 rfl) ?_
    refine lv_dup hx hb dX4_noteFall_24 rfl ?_
    refine gS_T hx hb hts hown (fun _ h => List.mem_cons_of_mem _ (List.mem_append_left _ (List.mem_append_right _ h))) V 7 28 (by decide) rfl (hts _ (List.mem_of_getElem? (i := 1) rfl)) dX4_noteFall_25 ?_
    refine lv_iconst (v := 1) hx hb dX4_noteFall_28 (by decide) ?_
    refine lv_iadd hx hb dX4_noteFall_29 ?_
    refine pS_T hx hb hts hown (fun _ h => List.mem_cons_of_mem _ (List.mem_append_left _ (List.mem_append_right _ h))) V 7 28 (by decide) rfl (hts _ (List.mem_of_getElem? (i := 1) rfl)) dX4_noteFall_30 (fun H locs V => ?_)
    obtain rfl := Option.some.inj h
    exact m_vret hx hb hr hlk V (Nat.zero_le _) (Nat.zero_le _) dX4_noteFall_33
-- X4_runClocks
def f_X4_runClocks_10 (N : Nat)   : Nat → mSt → Int32 → Option (Unit × mSt)
  | 0, _, _ => none
  | n + 1, σ, v3 => if 16 ≤ v3 then some ((), σ) else if mIn v3 16 then (f_X0_runs N σ v3.toNatClampNeg).bind fun q11 => if q11.1 = 0 then f_X4_runClocks_10 N n q11.2 (v3 + 1) else (f_X0_tick N q11.2 v3.toNatClampNeg).bind fun q13 => if q13.1 = 0 then f_X4_runClocks_10 N n q13.2 (v3 + 1) else (f_X4_noteFall N q13.2 v3.toNatClampNeg).bind fun q15 => (f_X4_awardTo N q15.2 v3.toNatClampNeg (1 - (q15.2 14 v3.toNatClampNeg))).bind fun q16 => f_X4_runClocks_10 N n q16.2 (v3 + 1) else none
set_option maxHeartbeats 4000000 in
set_option maxRecDepth 100000 in
theorem w_X4_runClocks_10 {l : Launch} {D : va_G} {y : Nat → ClassId} {ad : Nat → Nat} {N : Nat} {p : Program} {e : Env} {s : State} {m : MethodId} {args : Array Value} {below : List Frame} {meth : Method} {c : Code} (hstk : l.stackTraces = false) (Z : mZ (mFree 80 ad s.heap.size) s) (hB : mBd p s m args meth c cX4_runClocks 5 wsX4_runClocks RX4 none)  {q : Unit × mSt}   : ∀ (n : Nat) (σ : mSt) (v3 : Int32), f_X4_runClocks_10 N   n σ v3 = some q → ∀ (H : Heap) (locs : List Loc) (ls : Array Slot), mV D y (mFree 80 ad s.heap.size) s s.heap H locs 80 ad (mS y ad σ) → lv_has ls 5 [(0, .ref (ad 0)), (1, .ref (ad 3)), (2, .int 16), (3, .int v3)] → W p l e { frames := 8, cells := 0, slots := 0, locals := 129 } s m args below meth c H locs 0 0 (MQ below (mQ none D 80 ad (mS y ad q.2) s.heap.size) args s 0 0 (mFree 80 ad s.heap.size)) (F0 m 10 ls []) := by
  obtain ⟨hx, hb, hml, hown, hts, hr, hlk⟩ := id hB
  intro n
  induction n with
  | zero =>
    intro σ v3 h
    exact nomatch h
  | succ n ih =>
    intro σ v3 h H locs ls V hl
    rw [f_X4_runClocks_10] at h
    refine lv_iload_n hx hb dX4_runClocks_10 rfl (lv_at hl 3 rfl) ?_
    refine lv_iload_n hx hb dX4_runClocks_11 rfl (lv_at hl 2 rfl) ?_
    refine lv_icmp_ge (tgt := 62) hx hb dX4_runClocks_12 (by decide) (fun hc9 => ?_) (fun hc9 => ?_)
    · replace h := ite_t hc9 h
      obtain rfl := Option.some.inj h
      exact m_vret hx hb hr hlk V (Nat.zero_le _) (Nat.zero_le _) dX4_runClocks_62
    · replace h := ite_f hc9 h
      refine lv_aload_n hx hb dX4_runClocks_15 rfl (lv_at hl 1 rfl) ?_
      refine lv_iload_n hx hb dX4_runClocks_16 rfl (lv_at hl 3 rfl) ?_
      obtain ⟨hi10, h⟩ := gd_s h
      refine aS_G hx hb V hi10 dX4_runClocks_17 ?_
      refine lv_astore (lv' := [(4, .ref (ad (32 + v3.toNatClampNeg))), (0, .ref (ad 0)), (1, .ref (ad 3)), (2, .int 16), (3, .int v3)]) hx hb dX4_runClocks_18 hl (by decide) rfl (fun ls hl => ?_)
      refine lv_aload hx hb dX4_runClocks_20 (lv_at hl 0 rfl) ?_
      obtain ⟨q11, hq11, h⟩ := bd_s h
      refine kSS (As := []) (rest := []) ⟨hx, hb, hml, hown, hts⟩ Z V (c_X0_runs (l := l) (D := D) (y := y) (ad := ad) hstk hq11) (cwV 0 hts gX4_runClocks_X0_runs rfl rfl rfl (by decide +kernel) ⟨Nat.le_of_ble_eq_true rfl, Nat.le_of_ble_eq_true rfl⟩) (by omega) (mS_G y ad _ hi10.2) rfl rfl hl.1 rfl (Nat.le_of_ble_eq_true rfl) ⟨Nat.zero_le _, Nat.zero_le _⟩ rfl dX4_runClocks_22 (fun H locs V => ?_)
      refine lv_if_eq (tgt := 56) hx hb dX4_runClocks_25 (by decide) (fun hc12 => ?_) (fun hc12 => ?_)
      · replace h := ite_t hc12 h
        refine lv_iinc (v := v3 + 1) (lv' := [(3, .int (v3 + 1)), (4, .ref (ad (32 + v3.toNatClampNeg))), (0, .ref (ad 0)), (1, .ref (ad 3)), (2, .int 16)]) hx hb dX4_runClocks_56 hl (k := 4) rfl rfl (by decide) rfl (fun ls hl => ?_)
        refine lv_goto (tgt := 10) hx hb dX4_runClocks_59 (by decide) ?_
        exact ih _ _ h _ _ _ V (lv_sub hl [2, 3, 4, 0] rfl)
      · replace h := ite_f hc12 h
        refine lv_aload hx hb dX4_runClocks_28 (lv_at hl 0 rfl) ?_
        obtain ⟨q13, hq13, h⟩ := bd_s h
        refine kSS (As := []) (rest := []) ⟨hx, hb, hml, hown, hts⟩ Z V (c_X0_tick (l := l) (D := D) (y := y) (ad := ad) hstk hq13) (cwV 0 hts gX4_runClocks_X0_tick rfl rfl rfl (by decide +kernel) ⟨Nat.le_of_ble_eq_true rfl, Nat.le_of_ble_eq_true rfl⟩) (by omega) (mS_G y ad _ hi10.2) rfl rfl hl.1 rfl (Nat.le_of_ble_eq_true rfl) ⟨Nat.zero_le _, Nat.zero_le _⟩ rfl dX4_runClocks_30 (fun H locs V => ?_)
        refine lv_if_eq (tgt := 56) hx hb dX4_runClocks_33 (by decide) (fun hc14 => ?_) (fun hc14 => ?_)
        · replace h := ite_t hc14 h
          refine lv_iinc (v := v3 + 1) (lv' := [(3, .int (v3 + 1)), (4, .ref (ad (32 + v3.toNatClampNeg))), (0, .ref (ad 0)), (1, .ref (ad 3)), (2, .int 16)]) hx hb dX4_runClocks_56 hl (k := 4) rfl rfl (by decide) rfl (fun ls hl => ?_)
          refine lv_goto (tgt := 10) hx hb dX4_runClocks_59 (by decide) ?_
          exact ih _ _ h _ _ _ V (lv_sub hl [2, 3, 4, 0] rfl)
        · replace h := ite_f hc14 h
          refine lv_aload_n hx hb dX4_runClocks_36 rfl (lv_at hl 1 rfl) ?_
          refine lv_aload hx hb dX4_runClocks_37 (lv_at hl 0 rfl) ?_
          obtain ⟨q15, hq15, h⟩ := bd_s h
          refine kSS (As := [.ref (ad (32 + v3.toNatClampNeg))]) (rest := []) ⟨hx, hb, hml, hown, hts⟩ Z V (c_X4_noteFall (l := l) (D := D) (y := y) (ad := ad) hstk hq15) (cwV 1 hts gX4_runClocks_X4_noteFall rfl rfl rfl (by decide +kernel) ⟨Nat.le_of_ble_eq_true rfl, Nat.le_of_ble_eq_true rfl⟩) (by omega) (mS_T y ad _) rfl rfl hl.1 rfl (Nat.le_of_ble_eq_true rfl) ⟨Nat.zero_le _, Nat.zero_le _⟩ rfl dX4_runClocks_39 (fun H locs V => ?_)
          refine lv_aload_n hx hb dX4_runClocks_42 rfl (lv_at hl 1 rfl) ?_
          refine lv_aload hx hb dX4_runClocks_43 (lv_at hl 0 rfl) ?_
          refine lv_iconst (v := 1) hx hb dX4_runClocks_45 (by decide) ?_
          refine lv_aload hx hb dX4_runClocks_46 (lv_at hl 0 rfl) ?_
          refine gS_G hx hb hts hown (fun _ h => List.mem_cons_of_mem _ (List.mem_append_left _ (List.mem_append_left _ (List.mem_append_left _ (List.mem_append_right _ h))))) V hi10.2 4 14 (by decide) rfl (hts _ (List.mem_of_getElem? (i := 2) rfl)) dX4_runClocks_48 ?_
          refine lv_isub hx hb dX4_runClocks_51 ?_
          obtain ⟨q16, hq16, h⟩ := bd_s h
          refine kSS (As := [.ref (ad (32 + v3.toNatClampNeg)), .int (1 - (q15.2 14 v3.toNatClampNeg))]) (rest := []) ⟨hx, hb, hml, hown, hts⟩ Z V (c_X4_awardTo (l := l) (D := D) (y := y) (ad := ad) hstk hq16) (cwV 2 hts gX4_runClocks_X4_awardTo rfl rfl rfl (by decide +kernel) ⟨Nat.le_of_ble_eq_true rfl, Nat.le_of_ble_eq_true rfl⟩) (by omega) (mS_T y ad _) rfl rfl hl.1 rfl (Nat.le_of_ble_eq_true rfl) ⟨Nat.zero_le _, Nat.zero_le _⟩ rfl dX4_runClocks_52 (fun H locs V => ?_)
          refine lv_pop hx hb dX4_runClocks_55 rfl ?_
          refine lv_iinc (v := v3 + 1) (lv' := [(3, .int (v3 + 1)), (4, .ref (ad (32 + v3.toNatClampNeg))), (0, .ref (ad 0)), (1, .ref (ad 3)), (2, .int 16)]) hx hb dX4_runClocks_56 hl (k := 4) rfl rfl (by decide) rfl (fun ls hl => ?_)
          refine lv_goto (tgt := 10) hx hb dX4_runClocks_59 (by decide) ?_
          exact ih _ _ h _ _ _ V (lv_sub hl [2, 3, 4, 0] rfl)
def f_X4_runClocks (N : Nat) (σ : mSt)  : Option (Unit × mSt) := f_X4_runClocks_10 N N σ 0
set_option maxHeartbeats 4000000 in
set_option maxRecDepth 100000 in
theorem c_X4_runClocks {l : Launch} {D : va_G} {y : Nat → ClassId} {ad : Nat → Nat} {N : Nat} {σ : mSt}  {q : Unit × mSt} (hstk : l.stackTraces = false) (h : f_X4_runClocks N σ = some q) : mC l yX4_runClocks wsX4_runClocks { frames := 8, cells := 0, slots := 0, locals := 129 } D y 80 ad mZ (mS y ad σ) [.ref (ad 0)] none (mS y ad q.2) 0 0 := by
  refine m_start (cc := cX4_runClocks) (maxL := 5) (ret := none) (by decide) rfl (Nat.le_of_ble_eq_true rfl) (fun p e s m args below meth c ls hB _ V Z hl => ?_)
  obtain ⟨hx, hb, hml, hown, hts, hr, hlk⟩ := id hB
  have hl : lv_has ls 5 [(0, .ref (ad 0))] := hl
  rw [f_X4_runClocks] at h
  refine lv_aload_n hx hb dX4_runClocks_0 rfl (lv_at hl 0 rfl) ?_
  refine rS_G hx hb hts hown (fun _ h => List.mem_cons_of_mem _ (List.mem_append_left _ (List.mem_append_left _ (List.mem_append_left _ (List.mem_append_left _ (List.mem_append_right _ h)))))) V (hts _ (List.mem_of_getElem? (i := 1) rfl)) dX4_runClocks_1 ?_
  refine lv_astore_n (lv' := [(1, .ref (ad 3)), (0, .ref (ad 0))]) hx hb dX4_runClocks_4 rfl hl (by decide) rfl (fun ls hl => ?_)
  refine lv_aload_n hx hb dX4_runClocks_5 rfl (lv_at hl 0 rfl) ?_
  refine nS_G hx hb V dX4_runClocks_6 ?_
  refine lv_istore_n (lv' := [(2, .int 16), (1, .ref (ad 3)), (0, .ref (ad 0))]) hx hb dX4_runClocks_7 rfl hl (by decide) rfl (fun ls hl => ?_)
  refine lv_iconst (v := 0) hx hb dX4_runClocks_8 (by decide) ?_
  refine lv_istore_n (lv' := [(3, .int 0), (2, .int 16), (1, .ref (ad 3)), (0, .ref (ad 0))]) hx hb dX4_runClocks_9 rfl hl (by decide) rfl (fun ls hl => ?_)
  exact w_X4_runClocks_10 hstk Z hB _ _ _ h _ _ _ V (lv_sub hl [3, 2, 1, 0] rfl)
-- X4_addInterest
def f_X4_addInterest_10 (N : Nat)   : Nat → mSt → Int32 → Option (Unit × mSt)
  | 0, _, _ => none
  | n + 1, σ, v3 => if 20 ≤ v3 then some ((), σ) else if mIn v3 20 then if (σ 9 v3.toNatClampNeg) = 0 then (f_X1_addInterest N σ v3.toNatClampNeg).bind fun q8 => f_X4_addInterest_10 N n q8.2 (v3 + 1) else f_X4_addInterest_10 N n σ (v3 + 1) else none
set_option maxHeartbeats 4000000 in
set_option maxRecDepth 100000 in
theorem w_X4_addInterest_10 {l : Launch} {D : va_G} {y : Nat → ClassId} {ad : Nat → Nat} {N : Nat} {p : Program} {e : Env} {s : State} {m : MethodId} {args : Array Value} {below : List Frame} {meth : Method} {c : Code} (hstk : l.stackTraces = false) (Z : mZ (mFree 80 ad s.heap.size) s) (hB : mBd p s m args meth c cX4_addInterest 5 wsX4_addInterest RX4 none)  {q : Unit × mSt}   : ∀ (n : Nat) (σ : mSt) (v3 : Int32), f_X4_addInterest_10 N   n σ v3 = some q → ∀ (H : Heap) (locs : List Loc) (ls : Array Slot), mV D y (mFree 80 ad s.heap.size) s s.heap H locs 80 ad (mS y ad σ) → lv_has ls 5 [(1, .ref (ad 2)), (2, .int 20), (3, .int v3)] → W p l e { frames := 2, cells := 0, slots := 0, locals := 34 } s m args below meth c H locs 0 0 (MQ below (mQ none D 80 ad (mS y ad q.2) s.heap.size) args s 0 0 (mFree 80 ad s.heap.size)) (F0 m 10 ls []) := by
  obtain ⟨hx, hb, hml, hown, hts, hr, hlk⟩ := id hB
  intro n
  induction n with
  | zero =>
    intro σ v3 h
    exact nomatch h
  | succ n ih =>
    intro σ v3 h H locs ls V hl
    rw [f_X4_addInterest_10] at h
    refine lv_iload_n hx hb dX4_addInterest_10 rfl (lv_at hl 2 rfl) ?_
    refine lv_iload_n hx hb dX4_addInterest_11 rfl (lv_at hl 1 rfl) ?_
    refine lv_icmp_ge (tgt := 39) hx hb dX4_addInterest_12 (by decide) (fun hc5 => ?_) (fun hc5 => ?_)
    · replace h := ite_t hc5 h
      obtain rfl := Option.some.inj h
      exact m_vret hx hb hr hlk V (Nat.zero_le _) (Nat.zero_le _) dX4_addInterest_39
    · replace h := ite_f hc5 h
      refine lv_aload_n hx hb dX4_addInterest_15 rfl (lv_at hl 0 rfl) ?_
      refine lv_iload_n hx hb dX4_addInterest_16 rfl (lv_at hl 2 rfl) ?_
      obtain ⟨hi6, h⟩ := gd_s h
      refine aS_L hx hb V hi6 dX4_addInterest_17 ?_
      refine lv_astore (lv' := [(4, .ref (ad (12 + v3.toNatClampNeg))), (1, .ref (ad 2)), (2, .int 20), (3, .int v3)]) hx hb dX4_addInterest_18 hl (by decide) rfl (fun ls hl => ?_)
      refine lv_aload hx hb dX4_addInterest_20 (lv_at hl 0 rfl) ?_
      refine gS_L hx hb hts hown (fun _ h => List.mem_cons_of_mem _ (List.mem_append_right _ h)) V hi6.2 4 9 (by decide) rfl (hts _ (List.mem_of_getElem? (i := 2) rfl)) dX4_addInterest_22 ?_
      refine lv_if_ne (tgt := 33) hx hb dX4_addInterest_25 (by decide) (fun hc7 => ?_) (fun hc7 => ?_)
      · replace h := ite_f hc7 h
        refine lv_iinc (v := v3 + 1) (lv' := [(3, .int (v3 + 1)), (4, .ref (ad (12 + v3.toNatClampNeg))), (1, .ref (ad 2)), (2, .int 20)]) hx hb dX4_addInterest_33 hl (k := 3) rfl rfl (by decide) rfl (fun ls hl => ?_)
        refine lv_goto (tgt := 10) hx hb dX4_addInterest_36 (by decide) ?_
        exact ih _ _ h _ _ _ V (lv_sub hl [2, 3, 0] rfl)
      · replace h := ite_t hc7 h
        refine lv_aload hx hb dX4_addInterest_28 (lv_at hl 0 rfl) ?_
        obtain ⟨q8, hq8, h⟩ := bd_s h
        refine kSS (As := []) (rest := []) ⟨hx, hb, hml, hown, hts⟩ Z V (c_X1_addInterest (l := l) (D := D) (y := y) (ad := ad) hstk hq8) (cwV 0 hts gX4_addInterest_X1_addInterest rfl rfl rfl (by decide +kernel) ⟨Nat.le_of_ble_eq_true rfl, Nat.le_of_ble_eq_true rfl⟩) (by omega) (mS_L y ad _ hi6.2) rfl rfl hl.1 rfl (Nat.le_of_ble_eq_true rfl) ⟨Nat.zero_le _, Nat.zero_le _⟩ rfl dX4_addInterest_30 (fun H locs V => ?_)
        refine lv_iinc (v := v3 + 1) (lv' := [(3, .int (v3 + 1)), (4, .ref (ad (12 + v3.toNatClampNeg))), (1, .ref (ad 2)), (2, .int 20)]) hx hb dX4_addInterest_33 hl (k := 3) rfl rfl (by decide) rfl (fun ls hl => ?_)
        refine lv_goto (tgt := 10) hx hb dX4_addInterest_36 (by decide) ?_
        exact ih _ _ h _ _ _ V (lv_sub hl [2, 3, 0] rfl)
def f_X4_addInterest (N : Nat) (σ : mSt)  : Option (Unit × mSt) := f_X4_addInterest_10 N N σ 0
set_option maxHeartbeats 4000000 in
set_option maxRecDepth 100000 in
theorem c_X4_addInterest {l : Launch} {D : va_G} {y : Nat → ClassId} {ad : Nat → Nat} {N : Nat} {σ : mSt}  {q : Unit × mSt} (hstk : l.stackTraces = false) (h : f_X4_addInterest N σ = some q) : mC l yX4_addInterest wsX4_addInterest { frames := 2, cells := 0, slots := 0, locals := 34 } D y 80 ad mZ (mS y ad σ) [.ref (ad 0)] none (mS y ad q.2) 0 0 := by
  refine m_start (cc := cX4_addInterest) (maxL := 5) (ret := none) (by decide) rfl (Nat.le_of_ble_eq_true rfl) (fun p e s m args below meth c ls hB _ V Z hl => ?_)
  obtain ⟨hx, hb, hml, hown, hts, hr, hlk⟩ := id hB
  have hl : lv_has ls 5 [(0, .ref (ad 0))] := hl
  rw [f_X4_addInterest] at h
  refine lv_aload_n hx hb dX4_addInterest_0 rfl (lv_at hl 0 rfl) ?_
  refine rS_L hx hb hts hown (fun _ h => List.mem_cons_of_mem _ (List.mem_append_left _ (List.mem_append_right _ h))) V (hts _ (List.mem_of_getElem? (i := 1) rfl)) dX4_addInterest_1 ?_
  refine lv_astore_n (lv' := [(1, .ref (ad 2)), (0, .ref (ad 0))]) hx hb dX4_addInterest_4 rfl hl (by decide) rfl (fun ls hl => ?_)
  refine lv_aload_n hx hb dX4_addInterest_5 rfl (lv_at hl 0 rfl) ?_
  refine nS_L hx hb V dX4_addInterest_6 ?_
  refine lv_istore_n (lv' := [(2, .int 20), (1, .ref (ad 2)), (0, .ref (ad 0))]) hx hb dX4_addInterest_7 rfl hl (by decide) rfl (fun ls hl => ?_)
  refine lv_iconst (v := 0) hx hb dX4_addInterest_8 (by decide) ?_
  refine lv_istore_n (lv' := [(3, .int 0), (2, .int 20), (1, .ref (ad 2)), (0, .ref (ad 0))]) hx hb dX4_addInterest_9 rfl hl (by decide) rfl (fun ls hl => ?_)
  exact w_X4_addInterest_10 hstk Z hB _ _ _ h _ _ _ V (lv_sub hl [2, 1, 0] rfl)
-- X4_bringBack
def f_X4_bringBack (N : Nat) (σ : mSt) (a1 : Nat) (a2 : Int32) : Option (Unit × mSt) := if a1 < 20 then some ((), (mUp (mUp σ 6 a1 ((σ 6 a1) - a2)) 25 0 (((mUp σ 6 a1 ((σ 6 a1) - a2)) 25 0) + a2))) else none
set_option maxHeartbeats 4000000 in
set_option maxRecDepth 100000 in
theorem c_X4_bringBack {l : Launch} {D : va_G} {y : Nat → ClassId} {ad : Nat → Nat} {N : Nat} {σ : mSt} {a1 : Nat} {a2 : Int32} {q : Unit × mSt} (hstk : l.stackTraces = false) (h : f_X4_bringBack N σ a1 a2 = some q) : mC l yX4_bringBack wsX4_bringBack { frames := 0, cells := 0, slots := 0, locals := 0 } D y 80 ad mZ (mS y ad σ) [.ref (ad 0), .ref (ad (12 + a1)), .int a2] none (mS y ad q.2) 0 0 := by
  refine m_start (cc := cX4_bringBack) (maxL := 3) (ret := none) (by decide) rfl (Nat.le_of_ble_eq_true rfl) (fun p e s m args below meth c ls hB _ V Z hl => ?_)
  obtain ⟨hx, hb, hml, hown, hts, hr, hlk⟩ := id hB
  have hl : lv_has ls 3 [(0, .ref (ad 0)), (1, .ref (ad (12 + a1))), (2, .int a2)] := hl
  rw [f_X4_bringBack] at h
  obtain ⟨hg2, h⟩ := gd_s h
  refine lv_aload_n hx hb dX4_bringBack_0 rfl (lv_at hl 1 rfl) ?_
  refine lv_dup hx hb dX4_bringBack_1 rfl ?_
  refine gS_L hx hb hts hown (fun _ h => List.mem_cons_of_mem _ (List.mem_append_left _ (List.mem_append_right _ h))) V hg2 1 6 (by decide) rfl (hts _ (List.mem_of_getElem? (i := 1) rfl)) dX4_bringBack_2 ?_
  refine lv_iload_n hx hb dX4_bringBack_5 rfl (lv_at hl 2 rfl) ?_
  refine lv_isub hx hb dX4_bringBack_6 ?_
  refine pS_L hx hb hts hown (fun _ h => List.mem_cons_of_mem _ (List.mem_append_left _ (List.mem_append_right _ h))) V hg2 1 6 (by decide) rfl (hts _ (List.mem_of_getElem? (i := 1) rfl)) dX4_bringBack_7 (fun H locs V => ?_)
  refine lv_aload_n hx hb dX4_bringBack_10 rfl (lv_at hl 0 rfl) ?_
  refine lv_dup hx hb dX4_bringBack_11 rfl ?_
  refine gS_T hx hb hts hown (fun _ h => List.mem_cons_of_mem _ (List.mem_append_right _ h)) V 4 25 (by decide) rfl (hts _ (List.mem_of_getElem? (i := 2) rfl)) dX4_bringBack_12 ?_
  refine lv_iload_n hx hb dX4_bringBack_15 rfl (lv_at hl 2 rfl) ?_
  refine lv_iadd hx hb dX4_bringBack_16 ?_
  refine pS_T hx hb hts hown (fun _ h => List.mem_cons_of_mem _ (List.mem_append_right _ h)) V 4 25 (by decide) rfl (hts _ (List.mem_of_getElem? (i := 2) rfl)) dX4_bringBack_17 (fun H locs V => ?_)
  obtain rfl := Option.some.inj h
  exact m_vret hx hb hr hlk V (Nat.zero_le _) (Nat.zero_le _) dX4_bringBack_20
-- X4_takeFromPocket
def f_X4_takeFromPocket (N : Nat) (σ : mSt) (a1 : Nat) (a2 : Int32) : Option (Int32 × mSt) := if a1 < 20 then (f_X4_playerAt N σ (σ 5 a1)).bind fun q9 => oCase q9.1 (fun r10 => if r10 < 8 then (f_X4_bringBack N (mUp q9.2 1 r10 ((q9.2 1 r10) - (mMin (mMin a2 (q9.2 6 a1)) (q9.2 1 r10)))) a1 (mMin (mMin a2 (q9.2 6 a1)) (q9.2 1 r10))).bind fun q14 => some (mMin (mMin a2 (q9.2 6 a1)) (q9.2 1 r10), q14.2) else none) (fun _ => none) else none
set_option maxHeartbeats 4000000 in
set_option maxRecDepth 100000 in
theorem c_X4_takeFromPocket {l : Launch} {D : va_G} {y : Nat → ClassId} {ad : Nat → Nat} {N : Nat} {σ : mSt} {a1 : Nat} {a2 : Int32} {q : Int32 × mSt} (hstk : l.stackTraces = false) (h : f_X4_takeFromPocket N σ a1 a2 = some q) : mC l yX4_takeFromPocket wsX4_takeFromPocket { frames := 7, cells := 0, slots := 0, locals := 103 } D y 80 ad mZ (mS y ad σ) [.ref (ad 0), .ref (ad (12 + a1)), .int a2] (some (.int q.1)) (mS y ad q.2) 0 0 := by
  refine m_start (cc := cX4_takeFromPocket) (maxL := 5) (ret := (some .int)) (by decide) rfl (Nat.le_of_ble_eq_true rfl) (fun p e s m args below meth c ls hB _ V Z hl => ?_)
  obtain ⟨hx, hb, hml, hown, hts, hr, hlk⟩ := id hB
  have hl : lv_has ls 5 [(0, .ref (ad 0)), (1, .ref (ad (12 + a1))), (2, .int a2)] := hl
  rw [f_X4_takeFromPocket] at h
  obtain ⟨hg8, h⟩ := gd_s h
  refine lv_aload_n hx hb dX4_takeFromPocket_0 rfl (lv_at hl 0 rfl) ?_
  refine lv_aload_n hx hb dX4_takeFromPocket_1 rfl (lv_at hl 1 rfl) ?_
  refine gS_L hx hb hts hown (fun _ h => List.mem_cons_of_mem _ (List.mem_append_left _ (List.mem_append_left _ (List.mem_append_left _ (List.mem_append_right _ h))))) V hg8 0 5 (by decide) rfl (hts _ (List.mem_of_getElem? (i := 1) rfl)) dX4_takeFromPocket_2 ?_
  obtain ⟨q9, hq9, h⟩ := bd_s h
  cases ho12 : q9.1 with
  | inl r10 =>
    replace h := oCase_l ho12 h
    obtain ⟨hg13, h⟩ := gd_s h
    refine kSS (As := [.int (σ 5 a1)]) (rest := []) ⟨hx, hb, hml, hown, hts⟩ Z V (mOr_plain ho12 (c_X4_playerAt (l := l) (D := D) (y := y) (ad := ad) hstk hq9)) (cwV 1 hts gX4_takeFromPocket_X4_playerAt rfl rfl rfl (by decide +kernel) ⟨Nat.le_of_ble_eq_true rfl, Nat.le_of_ble_eq_true rfl⟩) (by omega) (mS_T y ad _) rfl rfl hl.1 rfl (Nat.le_of_ble_eq_true rfl) ⟨Nat.zero_le _, Nat.zero_le _⟩ rfl dX4_takeFromPocket_5 (fun H locs V => ?_)
    refine lv_astore_n (lv' := [(3, .ref (ad (4 + r10))), (0, .ref (ad 0)), (1, .ref (ad (12 + a1))), (2, .int a2)]) hx hb dX4_takeFromPocket_8 rfl hl (by decide) rfl (fun ls hl => ?_)
    refine lv_iload_n hx hb dX4_takeFromPocket_9 rfl (lv_at hl 3 rfl) ?_
    refine lv_aload_n hx hb dX4_takeFromPocket_10 rfl (lv_at hl 2 rfl) ?_
    refine gS_L hx hb hts hown (fun _ h => List.mem_cons_of_mem _ (List.mem_append_left _ (List.mem_append_left _ (List.mem_append_left _ (List.mem_append_right _ h))))) V hg8 1 6 (by decide) rfl (hts _ (List.mem_of_getElem? (i := 2) rfl)) dX4_takeFromPocket_11 ?_
    refine m_min hx hb hml hl.1 hown (hts _ (List.mem_of_getElem? (i := 3) rfl)) (hts _ (List.mem_of_getElem? (i := 4) rfl)) (hts _ (List.mem_of_getElem? (i := 5) rfl)) (hts _ (List.mem_of_getElem? (i := 6) rfl)) (Nat.le_of_ble_eq_true rfl) (Nat.le_of_ble_eq_true rfl) (Nat.zero_le _) (Nat.zero_le _) dX4_takeFromPocket_14 ?_
    refine lv_aload_n hx hb dX4_takeFromPocket_17 rfl (lv_at hl 0 rfl) ?_
    refine gS_P hx hb hts hown (fun _ h => List.mem_cons_of_mem _ (List.mem_append_left _ (List.mem_append_left _ (List.mem_append_right _ h)))) V hg13 1 1 (by decide) rfl (hts _ (List.mem_of_getElem? (i := 7) rfl)) dX4_takeFromPocket_18 ?_
    refine m_min hx hb hml hl.1 hown (hts _ (List.mem_of_getElem? (i := 3) rfl)) (hts _ (List.mem_of_getElem? (i := 4) rfl)) (hts _ (List.mem_of_getElem? (i := 5) rfl)) (hts _ (List.mem_of_getElem? (i := 6) rfl)) (Nat.le_of_ble_eq_true rfl) (Nat.le_of_ble_eq_true rfl) (Nat.zero_le _) (Nat.zero_le _) dX4_takeFromPocket_21 ?_
    refine lv_istore (lv' := [(4, .int (mMin (mMin a2 (q9.2 6 a1)) (q9.2 1 r10))), (3, .ref (ad (4 + r10))), (0, .ref (ad 0)), (1, .ref (ad (12 + a1))), (2, .int a2)]) hx hb dX4_takeFromPocket_24 hl (by decide) rfl (fun ls hl => ?_)
    refine lv_aload_n hx hb dX4_takeFromPocket_26 rfl (lv_at hl 1 rfl) ?_
    refine lv_dup hx hb dX4_takeFromPocket_27 rfl ?_
    refine gS_P hx hb hts hown (fun _ h => List.mem_cons_of_mem _ (List.mem_append_left _ (List.mem_append_left _ (List.mem_append_right _ h)))) V hg13 1 1 (by decide) rfl (hts _ (List.mem_of_getElem? (i := 7) rfl)) dX4_takeFromPocket_28 ?_
    refine lv_iload hx hb dX4_takeFromPocket_31 (lv_at hl 0 rfl) ?_
    refine lv_isub hx hb dX4_takeFromPocket_33 ?_
    refine pS_P hx hb hts hown (fun _ h => List.mem_cons_of_mem _ (List.mem_append_left _ (List.mem_append_left _ (List.mem_append_right _ h)))) V hg13 1 1 (by decide) rfl (hts _ (List.mem_of_getElem? (i := 7) rfl)) dX4_takeFromPocket_34 (fun H locs V => ?_)
    refine lv_aload_n hx hb dX4_takeFromPocket_37 rfl (lv_at hl 2 rfl) ?_
    refine lv_aload_n hx hb dX4_takeFromPocket_38 rfl (lv_at hl 3 rfl) ?_
    refine lv_iload hx hb dX4_takeFromPocket_39 (lv_at hl 0 rfl) ?_
    obtain ⟨q14, hq14, h⟩ := bd_s h
    refine kSS (As := [.ref (ad (12 + a1)), .int (mMin (mMin a2 (q9.2 6 a1)) (q9.2 1 r10))]) (rest := []) ⟨hx, hb, hml, hown, hts⟩ Z V (c_X4_bringBack (l := l) (D := D) (y := y) (ad := ad) hstk hq14) (cwV 2 hts gX4_takeFromPocket_X4_bringBack rfl rfl rfl (by decide +kernel) ⟨Nat.le_of_ble_eq_true rfl, Nat.le_of_ble_eq_true rfl⟩) (by omega) (mS_T y ad _) rfl rfl hl.1 rfl (Nat.le_of_ble_eq_true rfl) ⟨Nat.zero_le _, Nat.zero_le _⟩ rfl dX4_takeFromPocket_41 (fun H locs V => ?_)
    refine lv_iload hx hb dX4_takeFromPocket_44 (lv_at hl 0 rfl) ?_
    obtain rfl := Option.some.inj h
    exact m_iret hx hb hr hlk V (Nat.zero_le _) (Nat.zero_le _) dX4_takeFromPocket_46
  | inr e11 =>
    exact nomatch (oCase_r ho12 h)
-- X4_takeFromSide
def f_X4_takeFromSide (N : Nat) (σ : mSt) (a1 : Nat) (a2 : Nat) : Option (Unit × mSt) := if a1 < 20 then if a2 < 32 then if (σ 18 a2) = (σ 5 a1) then (f_X3_giveUpTo N σ a2 (σ 6 a1)).bind fun q9 => (f_X4_bringBack N q9.2 a1 q9.1).bind fun q10 => some ((), q10.2) else some ((), σ) else none else none
set_option maxHeartbeats 4000000 in
set_option maxRecDepth 100000 in
theorem c_X4_takeFromSide {l : Launch} {D : va_G} {y : Nat → ClassId} {ad : Nat → Nat} {N : Nat} {σ : mSt} {a1 : Nat} {a2 : Nat} {q : Unit × mSt} (hstk : l.stackTraces = false) (h : f_X4_takeFromSide N σ a1 a2 = some q) : mC l yX4_takeFromSide wsX4_takeFromSide { frames := 2, cells := 0, slots := 0, locals := 35 } D y 80 ad mZ (mS y ad σ) [.ref (ad 0), .ref (ad (12 + a1)), .ref (ad (48 + a2))] none (mS y ad q.2) 0 0 := by
  refine m_start (cc := cX4_takeFromSide) (maxL := 3) (ret := none) (by decide) rfl (Nat.le_of_ble_eq_true rfl) (fun p e s m args below meth c ls hB _ V Z hl => ?_)
  obtain ⟨hx, hb, hml, hown, hts, hr, hlk⟩ := id hB
  have hl : lv_has ls 3 [(0, .ref (ad 0)), (1, .ref (ad (12 + a1))), (2, .ref (ad (48 + a2)))] := hl
  rw [f_X4_takeFromSide] at h
  obtain ⟨hg6, h⟩ := gd_s h
  obtain ⟨hg7, h⟩ := gd_s h
  refine lv_aload_n hx hb dX4_takeFromSide_0 rfl (lv_at hl 2 rfl) ?_
  refine gS_S hx hb hts hown (fun _ h => List.mem_cons_of_mem _ (List.mem_append_left _ (List.mem_append_left _ (List.mem_append_right _ h)))) V hg7 0 18 (by decide) rfl (hts _ (List.mem_of_getElem? (i := 1) rfl)) dX4_takeFromSide_1 ?_
  refine lv_aload_n hx hb dX4_takeFromSide_4 rfl (lv_at hl 1 rfl) ?_
  refine gS_L hx hb hts hown (fun _ h => List.mem_cons_of_mem _ (List.mem_append_left _ (List.mem_append_right _ h))) V hg6 0 5 (by decide) rfl (hts _ (List.mem_of_getElem? (i := 2) rfl)) dX4_takeFromSide_5 ?_
  refine lv_icmp_ne (tgt := 24) hx hb dX4_takeFromSide_8 (by decide) (fun hc8 => ?_) (fun hc8 => ?_)
  · replace h := ite_f hc8 h
    obtain rfl := Option.some.inj h
    exact m_vret hx hb hr hlk V (Nat.zero_le _) (Nat.zero_le _) dX4_takeFromSide_24
  · replace h := ite_t hc8 h
    refine lv_aload_n hx hb dX4_takeFromSide_11 rfl (lv_at hl 0 rfl) ?_
    refine lv_aload_n hx hb dX4_takeFromSide_12 rfl (lv_at hl 1 rfl) ?_
    refine lv_aload_n hx hb dX4_takeFromSide_13 rfl (lv_at hl 2 rfl) ?_
    refine lv_aload_n hx hb dX4_takeFromSide_14 rfl (lv_at hl 1 rfl) ?_
    refine gS_L hx hb hts hown (fun _ h => List.mem_cons_of_mem _ (List.mem_append_left _ (List.mem_append_right _ h))) V hg6 1 6 (by decide) rfl (hts _ (List.mem_of_getElem? (i := 3) rfl)) dX4_takeFromSide_15 ?_
    obtain ⟨q9, hq9, h⟩ := bd_s h
    refine kSS (As := [.int (σ 6 a1)]) (rest := [.ref (ad (12 + a1)), .ref (ad 0)]) ⟨hx, hb, hml, hown, hts⟩ Z V (c_X3_giveUpTo (l := l) (D := D) (y := y) (ad := ad) hstk hq9) (cwV 1 hts gX4_takeFromSide_X3_giveUpTo rfl rfl rfl (by decide +kernel) ⟨Nat.le_of_ble_eq_true rfl, Nat.le_of_ble_eq_true rfl⟩) (by omega) (mS_S y ad _ hg7) rfl rfl hl.1 rfl (Nat.le_of_ble_eq_true rfl) ⟨Nat.zero_le _, Nat.zero_le _⟩ rfl dX4_takeFromSide_18 (fun H locs V => ?_)
    obtain ⟨q10, hq10, h⟩ := bd_s h
    refine kSS (As := [.ref (ad (12 + a1)), .int q9.1]) (rest := []) ⟨hx, hb, hml, hown, hts⟩ Z V (c_X4_bringBack (l := l) (D := D) (y := y) (ad := ad) hstk hq10) (cwV 2 hts gX4_takeFromSide_X4_bringBack rfl rfl rfl (by decide +kernel) ⟨Nat.le_of_ble_eq_true rfl, Nat.le_of_ble_eq_true rfl⟩) (by omega) (mS_T y ad _) rfl rfl hl.1 rfl (Nat.le_of_ble_eq_true rfl) ⟨Nat.zero_le _, Nat.zero_le _⟩ rfl dX4_takeFromSide_21 (fun H locs V => ?_)
    obtain rfl := Option.some.inj h
    exact m_vret hx hb hr hlk V (Nat.zero_le _) (Nat.zero_le _) dX4_takeFromSide_24
-- X4_takeFromClocks
def f_X4_takeFromClocks_11 (N : Nat) (a1 : Nat)  : Nat → mSt → Int32 → Option (Unit × mSt)
  | 0, _, _ => none
  | n + 1, σ, v4 => if a1 < 20 then if 16 ≤ v4 then some ((), σ) else if mIn v4 16 then (f_X0_runs N σ v4.toNatClampNeg).bind fun q12 => if q12.1 = 0 then f_X4_takeFromClocks_11 N a1 n q12.2 (v4 + 1) else (f_X4_takeFromSide N q12.2 a1 (2 * v4.toNatClampNeg)).bind fun q14 => (f_X4_takeFromSide N q14.2 a1 (2 * v4.toNatClampNeg + 1)).bind fun q15 => f_X4_takeFromClocks_11 N a1 n q15.2 (v4 + 1) else none else none
set_option maxHeartbeats 4000000 in
set_option maxRecDepth 100000 in
theorem w_X4_takeFromClocks_11 {l : Launch} {D : va_G} {y : Nat → ClassId} {ad : Nat → Nat} {N : Nat} {p : Program} {e : Env} {s : State} {m : MethodId} {args : Array Value} {below : List Frame} {meth : Method} {c : Code} (hstk : l.stackTraces = false) (Z : mZ (mFree 80 ad s.heap.size) s) (hB : mBd p s m args meth c cX4_takeFromClocks 6 wsX4_takeFromClocks RX4 none) {a1 : Nat} {q : Unit × mSt}   : ∀ (n : Nat) (σ : mSt) (v4 : Int32), f_X4_takeFromClocks_11 N a1  n σ v4 = some q → ∀ (H : Heap) (locs : List Loc) (ls : Array Slot), mV D y (mFree 80 ad s.heap.size) s s.heap H locs 80 ad (mS y ad σ) → lv_has ls 6 [(0, .ref (ad 0)), (1, .ref (ad (12 + a1))), (2, .ref (ad 3)), (3, .int 16), (4, .int v4)] → W p l e { frames := 3, cells := 0, slots := 0, locals := 57 } s m args below meth c H locs 0 0 (MQ below (mQ none D 80 ad (mS y ad q.2) s.heap.size) args s 0 0 (mFree 80 ad s.heap.size)) (F0 m 11 ls []) := by
  obtain ⟨hx, hb, hml, hown, hts, hr, hlk⟩ := id hB
  intro n
  induction n with
  | zero =>
    intro σ v4 h
    exact nomatch h
  | succ n ih =>
    intro σ v4 h H locs ls V hl
    rw [f_X4_takeFromClocks_11] at h
    obtain ⟨hg9, h⟩ := gd_s h
    refine lv_iload hx hb dX4_takeFromClocks_11 (lv_at hl 4 rfl) ?_
    refine lv_iload_n hx hb dX4_takeFromClocks_13 rfl (lv_at hl 3 rfl) ?_
    refine lv_icmp_ge (tgt := 57) hx hb dX4_takeFromClocks_14 (by decide) (fun hc10 => ?_) (fun hc10 => ?_)
    · replace h := ite_t hc10 h
      obtain rfl := Option.some.inj h
      exact m_vret hx hb hr hlk V (Nat.zero_le _) (Nat.zero_le _) dX4_takeFromClocks_57
    · replace h := ite_f hc10 h
      refine lv_aload_n hx hb dX4_takeFromClocks_17 rfl (lv_at hl 2 rfl) ?_
      refine lv_iload hx hb dX4_takeFromClocks_18 (lv_at hl 4 rfl) ?_
      obtain ⟨hi11, h⟩ := gd_s h
      refine aS_G hx hb V hi11 dX4_takeFromClocks_20 ?_
      refine lv_astore (lv' := [(5, .ref (ad (32 + v4.toNatClampNeg))), (0, .ref (ad 0)), (1, .ref (ad (12 + a1))), (2, .ref (ad 3)), (3, .int 16), (4, .int v4)]) hx hb dX4_takeFromClocks_21 hl (by decide) rfl (fun ls hl => ?_)
      refine lv_aload hx hb dX4_takeFromClocks_23 (lv_at hl 0 rfl) ?_
      obtain ⟨q12, hq12, h⟩ := bd_s h
      refine kSS (As := []) (rest := []) ⟨hx, hb, hml, hown, hts⟩ Z V (c_X0_runs (l := l) (D := D) (y := y) (ad := ad) hstk hq12) (cwV 0 hts gX4_takeFromClocks_X0_runs rfl rfl rfl (by decide +kernel) ⟨Nat.le_of_ble_eq_true rfl, Nat.le_of_ble_eq_true rfl⟩) (by omega) (mS_G y ad _ hi11.2) rfl rfl hl.1 rfl (Nat.le_of_ble_eq_true rfl) ⟨Nat.zero_le _, Nat.zero_le _⟩ rfl dX4_takeFromClocks_25 (fun H locs V => ?_)
      refine lv_if_eq (tgt := 51) hx hb dX4_takeFromClocks_28 (by decide) (fun hc13 => ?_) (fun hc13 => ?_)
      · replace h := ite_t hc13 h
        refine lv_iinc (v := v4 + 1) (lv' := [(4, .int (v4 + 1)), (5, .ref (ad (32 + v4.toNatClampNeg))), (0, .ref (ad 0)), (1, .ref (ad (12 + a1))), (2, .ref (ad 3)), (3, .int 16)]) hx hb dX4_takeFromClocks_51 hl (k := 5) rfl rfl (by decide) rfl (fun ls hl => ?_)
        refine lv_goto (tgt := 11) hx hb dX4_takeFromClocks_54 (by decide) ?_
        exact ih _ _ h _ _ _ V (lv_sub hl [2, 3, 4, 5, 0] rfl)
      · replace h := ite_f hc13 h
        refine lv_aload_n hx hb dX4_takeFromClocks_31 rfl (lv_at hl 1 rfl) ?_
        refine lv_aload_n hx hb dX4_takeFromClocks_32 rfl (lv_at hl 2 rfl) ?_
        refine lv_aload hx hb dX4_takeFromClocks_33 (lv_at hl 0 rfl) ?_
        refine sS_w hx hb hts hown (fun _ h => List.mem_cons_of_mem _ (List.mem_append_left _ (List.mem_append_left _ (List.mem_append_right _ h)))) V hi11.2 (hts _ (List.mem_of_getElem? (i := 2) rfl)) dX4_takeFromClocks_35 ?_
        obtain ⟨q14, hq14, h⟩ := bd_s h
        refine kSS (As := [.ref (ad (12 + a1)), .ref (ad (48 + (2 * v4.toNatClampNeg)))]) (rest := []) ⟨hx, hb, hml, hown, hts⟩ Z V (c_X4_takeFromSide (l := l) (D := D) (y := y) (ad := ad) hstk hq14) (cwV 2 hts gX4_takeFromClocks_X4_takeFromSide rfl rfl rfl (by decide +kernel) ⟨Nat.le_of_ble_eq_true rfl, Nat.le_of_ble_eq_true rfl⟩) (by omega) (mS_T y ad _) rfl rfl hl.1 rfl (Nat.le_of_ble_eq_true rfl) ⟨Nat.zero_le _, Nat.zero_le _⟩ rfl dX4_takeFromClocks_38 (fun H locs V => ?_)
        refine lv_aload_n hx hb dX4_takeFromClocks_41 rfl (lv_at hl 1 rfl) ?_
        refine lv_aload_n hx hb dX4_takeFromClocks_42 rfl (lv_at hl 2 rfl) ?_
        refine lv_aload hx hb dX4_takeFromClocks_43 (lv_at hl 0 rfl) ?_
        refine sS_b hx hb hts hown (fun _ h => List.mem_cons_of_mem _ (List.mem_append_left _ (List.mem_append_left _ (List.mem_append_right _ h)))) V hi11.2 (hts _ (List.mem_of_getElem? (i := 3) rfl)) dX4_takeFromClocks_45 ?_
        obtain ⟨q15, hq15, h⟩ := bd_s h
        refine kSS (As := [.ref (ad (12 + a1)), .ref (ad (48 + (2 * v4.toNatClampNeg + 1)))]) (rest := []) ⟨hx, hb, hml, hown, hts⟩ Z V (c_X4_takeFromSide (l := l) (D := D) (y := y) (ad := ad) hstk hq15) (cwV 2 hts gX4_takeFromClocks_X4_takeFromSide rfl rfl rfl (by decide +kernel) ⟨Nat.le_of_ble_eq_true rfl, Nat.le_of_ble_eq_true rfl⟩) (by omega) (mS_T y ad _) rfl rfl hl.1 rfl (Nat.le_of_ble_eq_true rfl) ⟨Nat.zero_le _, Nat.zero_le _⟩ rfl dX4_takeFromClocks_48 (fun H locs V => ?_)
        refine lv_iinc (v := v4 + 1) (lv' := [(4, .int (v4 + 1)), (5, .ref (ad (32 + v4.toNatClampNeg))), (0, .ref (ad 0)), (1, .ref (ad (12 + a1))), (2, .ref (ad 3)), (3, .int 16)]) hx hb dX4_takeFromClocks_51 hl (k := 5) rfl rfl (by decide) rfl (fun ls hl => ?_)
        refine lv_goto (tgt := 11) hx hb dX4_takeFromClocks_54 (by decide) ?_
        exact ih _ _ h _ _ _ V (lv_sub hl [2, 3, 4, 5, 0] rfl)
def f_X4_takeFromClocks (N : Nat) (σ : mSt) (a1 : Nat) : Option (Unit × mSt) := if a1 < 20 then f_X4_takeFromClocks_11 N a1 N σ 0 else none
set_option maxHeartbeats 4000000 in
set_option maxRecDepth 100000 in
theorem c_X4_takeFromClocks {l : Launch} {D : va_G} {y : Nat → ClassId} {ad : Nat → Nat} {N : Nat} {σ : mSt} {a1 : Nat} {q : Unit × mSt} (hstk : l.stackTraces = false) (h : f_X4_takeFromClocks N σ a1 = some q) : mC l yX4_takeFromClocks wsX4_takeFromClocks { frames := 3, cells := 0, slots := 0, locals := 57 } D y 80 ad mZ (mS y ad σ) [.ref (ad 0), .ref (ad (12 + a1))] none (mS y ad q.2) 0 0 := by
  refine m_start (cc := cX4_takeFromClocks) (maxL := 6) (ret := none) (by decide) rfl (Nat.le_of_ble_eq_true rfl) (fun p e s m args below meth c ls hB _ V Z hl => ?_)
  obtain ⟨hx, hb, hml, hown, hts, hr, hlk⟩ := id hB
  have hl : lv_has ls 6 [(0, .ref (ad 0)), (1, .ref (ad (12 + a1)))] := hl
  rw [f_X4_takeFromClocks] at h
  obtain ⟨hg16, h⟩ := gd_s h
  refine lv_aload_n hx hb dX4_takeFromClocks_0 rfl (lv_at hl 0 rfl) ?_
  refine rS_G hx hb hts hown (fun _ h => List.mem_cons_of_mem _ (List.mem_append_left _ (List.mem_append_left _ (List.mem_append_left _ (List.mem_append_right _ h))))) V (hts _ (List.mem_of_getElem? (i := 1) rfl)) dX4_takeFromClocks_1 ?_
  refine lv_astore_n (lv' := [(2, .ref (ad 3)), (0, .ref (ad 0)), (1, .ref (ad (12 + a1)))]) hx hb dX4_takeFromClocks_4 rfl hl (by decide) rfl (fun ls hl => ?_)
  refine lv_aload_n hx hb dX4_takeFromClocks_5 rfl (lv_at hl 0 rfl) ?_
  refine nS_G hx hb V dX4_takeFromClocks_6 ?_
  refine lv_istore_n (lv' := [(3, .int 16), (2, .ref (ad 3)), (0, .ref (ad 0)), (1, .ref (ad (12 + a1)))]) hx hb dX4_takeFromClocks_7 rfl hl (by decide) rfl (fun ls hl => ?_)
  refine lv_iconst (v := 0) hx hb dX4_takeFromClocks_8 (by decide) ?_
  refine lv_istore (lv' := [(4, .int 0), (3, .int 16), (2, .ref (ad 3)), (0, .ref (ad 0)), (1, .ref (ad (12 + a1)))]) hx hb dX4_takeFromClocks_9 hl (by decide) rfl (fun ls hl => ?_)
  exact w_X4_takeFromClocks_11 hstk Z hB _ _ _ h _ _ _ V (lv_sub hl [3, 4, 2, 1, 0] rfl)
-- X4_judge
def f_X4_judge (N : Nat) (σ : mSt) (a1 : Nat) : Option (Unit × mSt) := if a1 < 20 then if (σ 6 a1) = 0 then some ((), (mUp σ 9 a1 1)) else some ((), (mUp (mUp σ 9 a1 2) 29 0 (((mUp σ 9 a1 2) 29 0) + 1))) else none
set_option maxHeartbeats 4000000 in
set_option maxRecDepth 100000 in
theorem c_X4_judge {l : Launch} {D : va_G} {y : Nat → ClassId} {ad : Nat → Nat} {N : Nat} {σ : mSt} {a1 : Nat} {q : Unit × mSt} (hstk : l.stackTraces = false) (h : f_X4_judge N σ a1 = some q) : mC l yX4_judge wsX4_judge { frames := 0, cells := 0, slots := 0, locals := 0 } D y 80 ad mZ (mS y ad σ) [.ref (ad 0), .ref (ad (12 + a1))] none (mS y ad q.2) 0 0 := by
  refine m_start (cc := cX4_judge) (maxL := 2) (ret := none) (by decide) rfl (Nat.le_of_ble_eq_true rfl) (fun p e s m args below meth c ls hB _ V Z hl => ?_)
  obtain ⟨hx, hb, hml, hown, hts, hr, hlk⟩ := id hB
  have hl : lv_has ls 2 [(0, .ref (ad 0)), (1, .ref (ad (12 + a1)))] := hl
  rw [f_X4_judge] at h
  obtain ⟨hg3, h⟩ := gd_s h
  refine lv_aload_n hx hb dX4_judge_0 rfl (lv_at hl 1 rfl) ?_
  refine gS_L hx hb hts hown (fun _ h => List.mem_cons_of_mem _ (List.mem_append_left _ (List.mem_append_right _ h))) V hg3 1 6 (by decide) rfl (hts _ (List.mem_of_getElem? (i := 1) rfl)) dX4_judge_1 ?_
  refine lv_if_ne (tgt := 15) hx hb dX4_judge_4 (by decide) (fun hc4 => ?_) (fun hc4 => ?_)
  · replace h := ite_f hc4 h
    refine lv_aload_n hx hb dX4_judge_15 rfl (lv_at hl 1 rfl) ?_
    refine lv_iconst (v := 2) hx hb dX4_judge_16 (by decide) ?_
    refine pS_L hx hb hts hown (fun _ h => List.mem_cons_of_mem _ (List.mem_append_left _ (List.mem_append_right _ h))) V hg3 4 9 (by decide) rfl (hts _ (List.mem_of_getElem? (i := 2) rfl)) dX4_judge_17 (fun H locs V => ?_)
    refine lv_aload_n hx hb dX4_judge_20 rfl (lv_at hl 0 rfl) ?_
    refine lv_dup hx hb dX4_judge_21 rfl ?_
    refine gS_T hx hb hts hown (fun _ h => List.mem_cons_of_mem _ (List.mem_append_right _ h)) V 8 29 (by decide) rfl (hts _ (List.mem_of_getElem? (i := 3) rfl)) dX4_judge_22 ?_
    refine lv_iconst (v := 1) hx hb dX4_judge_25 (by decide) ?_
    refine lv_iadd hx hb dX4_judge_26 ?_
    refine pS_T hx hb hts hown (fun _ h => List.mem_cons_of_mem _ (List.mem_append_right _ h)) V 8 29 (by decide) rfl (hts _ (List.mem_of_getElem? (i := 3) rfl)) dX4_judge_27 (fun H locs V => ?_)
    obtain rfl := Option.some.inj h
    exact m_vret hx hb hr hlk V (Nat.zero_le _) (Nat.zero_le _) dX4_judge_30
  · replace h := ite_t hc4 h
    refine lv_aload_n hx hb dX4_judge_7 rfl (lv_at hl 1 rfl) ?_
    refine lv_iconst (v := 1) hx hb dX4_judge_8 (by decide) ?_
    refine pS_L hx hb hts hown (fun _ h => List.mem_cons_of_mem _ (List.mem_append_left _ (List.mem_append_right _ h))) V hg3 4 9 (by decide) rfl (hts _ (List.mem_of_getElem? (i := 2) rfl)) dX4_judge_9 (fun H locs V => ?_)
    refine lv_goto (tgt := 30) hx hb dX4_judge_12 (by decide) ?_
    obtain rfl := Option.some.inj h
    exact m_vret hx hb hr hlk V (Nat.zero_le _) (Nat.zero_le _) dX4_judge_30
-- X4_collectDueLoans
def f_X4_collectDueLoans_10 (N : Nat)   : Nat → mSt → Int32 → Option (Unit × mSt)
  | 0, _, _ => none
  | n + 1, σ, v3 => if 20 ≤ v3 then some ((), σ) else if mIn v3 20 then if (σ 9 v3.toNatClampNeg) = 0 then if (σ 8 v3.toNatClampNeg) = (σ 24 0) then (f_X4_takeFromPocket N σ v3.toNatClampNeg (σ 6 v3.toNatClampNeg)).bind fun q12 => (f_X4_takeFromClocks N q12.2 v3.toNatClampNeg).bind fun q13 => (f_X4_judge N q13.2 v3.toNatClampNeg).bind fun q14 => f_X4_collectDueLoans_10 N n q14.2 (v3 + 1) else f_X4_collectDueLoans_10 N n σ (v3 + 1) else f_X4_collectDueLoans_10 N n σ (v3 + 1) else none
set_option maxHeartbeats 4000000 in
set_option maxRecDepth 100000 in
theorem w_X4_collectDueLoans_10 {l : Launch} {D : va_G} {y : Nat → ClassId} {ad : Nat → Nat} {N : Nat} {p : Program} {e : Env} {s : State} {m : MethodId} {args : Array Value} {below : List Frame} {meth : Method} {c : Code} (hstk : l.stackTraces = false) (Z : mZ (mFree 80 ad s.heap.size) s) (hB : mBd p s m args meth c cX4_collectDueLoans 5 wsX4_collectDueLoans RX4 none)  {q : Unit × mSt}   : ∀ (n : Nat) (σ : mSt) (v3 : Int32), f_X4_collectDueLoans_10 N   n σ v3 = some q → ∀ (H : Heap) (locs : List Loc) (ls : Array Slot), mV D y (mFree 80 ad s.heap.size) s s.heap H locs 80 ad (mS y ad σ) → lv_has ls 5 [(0, .ref (ad 0)), (1, .ref (ad 2)), (2, .int 20), (3, .int v3)] → W p l e { frames := 8, cells := 0, slots := 0, locals := 127 } s m args below meth c H locs 0 0 (MQ below (mQ none D 80 ad (mS y ad q.2) s.heap.size) args s 0 0 (mFree 80 ad s.heap.size)) (F0 m 10 ls []) := by
  obtain ⟨hx, hb, hml, hown, hts, hr, hlk⟩ := id hB
  intro n
  induction n with
  | zero =>
    intro σ v3 h
    exact nomatch h
  | succ n ih =>
    intro σ v3 h H locs ls V hl
    rw [f_X4_collectDueLoans_10] at h
    refine lv_iload_n hx hb dX4_collectDueLoans_10 rfl (lv_at hl 3 rfl) ?_
    refine lv_iload_n hx hb dX4_collectDueLoans_11 rfl (lv_at hl 2 rfl) ?_
    refine lv_icmp_ge (tgt := 70) hx hb dX4_collectDueLoans_12 (by decide) (fun hc8 => ?_) (fun hc8 => ?_)
    · replace h := ite_t hc8 h
      obtain rfl := Option.some.inj h
      exact m_vret hx hb hr hlk V (Nat.zero_le _) (Nat.zero_le _) dX4_collectDueLoans_70
    · replace h := ite_f hc8 h
      refine lv_aload_n hx hb dX4_collectDueLoans_15 rfl (lv_at hl 1 rfl) ?_
      refine lv_iload_n hx hb dX4_collectDueLoans_16 rfl (lv_at hl 3 rfl) ?_
      obtain ⟨hi9, h⟩ := gd_s h
      refine aS_L hx hb V hi9 dX4_collectDueLoans_17 ?_
      refine lv_astore (lv' := [(4, .ref (ad (12 + v3.toNatClampNeg))), (0, .ref (ad 0)), (1, .ref (ad 2)), (2, .int 20), (3, .int v3)]) hx hb dX4_collectDueLoans_18 hl (by decide) rfl (fun ls hl => ?_)
      refine lv_aload hx hb dX4_collectDueLoans_20 (lv_at hl 0 rfl) ?_
      refine gS_L hx hb hts hown (fun _ h => List.mem_cons_of_mem _ (List.mem_append_left _ (List.mem_append_left _ (List.mem_append_left _ (List.mem_append_left _ (List.mem_append_right _ h)))))) V hi9.2 4 9 (by decide) rfl (hts _ (List.mem_of_getElem? (i := 2) rfl)) dX4_collectDueLoans_22 ?_
      refine lv_if_ne (tgt := 64) hx hb dX4_collectDueLoans_25 (by decide) (fun hc10 => ?_) (fun hc10 => ?_)
      · replace h := ite_f hc10 h
        refine lv_iinc (v := v3 + 1) (lv' := [(3, .int (v3 + 1)), (4, .ref (ad (12 + v3.toNatClampNeg))), (0, .ref (ad 0)), (1, .ref (ad 2)), (2, .int 20)]) hx hb dX4_collectDueLoans_64 hl (k := 4) rfl rfl (by decide) rfl (fun ls hl => ?_)
        refine lv_goto (tgt := 10) hx hb dX4_collectDueLoans_67 (by decide) ?_
        exact ih _ _ h _ _ _ V (lv_sub hl [2, 3, 4, 0] rfl)
      · replace h := ite_t hc10 h
        refine lv_aload hx hb dX4_collectDueLoans_28 (lv_at hl 0 rfl) ?_
        refine gS_L hx hb hts hown (fun _ h => List.mem_cons_of_mem _ (List.mem_append_left _ (List.mem_append_left _ (List.mem_append_left _ (List.mem_append_left _ (List.mem_append_right _ h)))))) V hi9.2 3 8 (by decide) rfl (hts _ (List.mem_of_getElem? (i := 3) rfl)) dX4_collectDueLoans_30 ?_
        refine lv_aload_n hx hb dX4_collectDueLoans_33 rfl (lv_at hl 1 rfl) ?_
        refine gS_T hx hb hts hown (fun _ h => List.mem_cons_of_mem _ (List.mem_append_left _ (List.mem_append_left _ (List.mem_append_left _ (List.mem_append_left _ (List.mem_append_left _ (List.mem_append_right _ h))))))) V 3 24 (by decide) rfl (hts _ (List.mem_of_getElem? (i := 4) rfl)) dX4_collectDueLoans_34 ?_
        refine lv_icmp_ne (tgt := 64) hx hb dX4_collectDueLoans_37 (by decide) (fun hc11 => ?_) (fun hc11 => ?_)
        · replace h := ite_f hc11 h
          refine lv_iinc (v := v3 + 1) (lv' := [(3, .int (v3 + 1)), (4, .ref (ad (12 + v3.toNatClampNeg))), (0, .ref (ad 0)), (1, .ref (ad 2)), (2, .int 20)]) hx hb dX4_collectDueLoans_64 hl (k := 4) rfl rfl (by decide) rfl (fun ls hl => ?_)
          refine lv_goto (tgt := 10) hx hb dX4_collectDueLoans_67 (by decide) ?_
          exact ih _ _ h _ _ _ V (lv_sub hl [2, 3, 4, 0] rfl)
        · replace h := ite_t hc11 h
          refine lv_aload_n hx hb dX4_collectDueLoans_40 rfl (lv_at hl 1 rfl) ?_
          refine lv_aload hx hb dX4_collectDueLoans_41 (lv_at hl 0 rfl) ?_
          refine lv_aload hx hb dX4_collectDueLoans_43 (lv_at hl 0 rfl) ?_
          refine gS_L hx hb hts hown (fun _ h => List.mem_cons_of_mem _ (List.mem_append_left _ (List.mem_append_left _ (List.mem_append_left _ (List.mem_append_left _ (List.mem_append_right _ h)))))) V hi9.2 1 6 (by decide) rfl (hts _ (List.mem_of_getElem? (i := 5) rfl)) dX4_collectDueLoans_45 ?_
          obtain ⟨q12, hq12, h⟩ := bd_s h
          refine kSS (As := [.ref (ad (12 + v3.toNatClampNeg)), .int (σ 6 v3.toNatClampNeg)]) (rest := []) ⟨hx, hb, hml, hown, hts⟩ Z V (c_X4_takeFromPocket (l := l) (D := D) (y := y) (ad := ad) hstk hq12) (cwV 2 hts gX4_collectDueLoans_X4_takeFromPocket rfl rfl rfl (by decide +kernel) ⟨Nat.le_of_ble_eq_true rfl, Nat.le_of_ble_eq_true rfl⟩) (by omega) (mS_T y ad _) rfl rfl hl.1 rfl (Nat.le_of_ble_eq_true rfl) ⟨Nat.zero_le _, Nat.zero_le _⟩ rfl dX4_collectDueLoans_48 (fun H locs V => ?_)
          refine lv_pop hx hb dX4_collectDueLoans_51 rfl ?_
          refine lv_aload_n hx hb dX4_collectDueLoans_52 rfl (lv_at hl 1 rfl) ?_
          refine lv_aload hx hb dX4_collectDueLoans_53 (lv_at hl 0 rfl) ?_
          obtain ⟨q13, hq13, h⟩ := bd_s h
          refine kSS (As := [.ref (ad (12 + v3.toNatClampNeg))]) (rest := []) ⟨hx, hb, hml, hown, hts⟩ Z V (c_X4_takeFromClocks (l := l) (D := D) (y := y) (ad := ad) hstk hq13) (cwV 1 hts gX4_collectDueLoans_X4_takeFromClocks rfl rfl rfl (by decide +kernel) ⟨Nat.le_of_ble_eq_true rfl, Nat.le_of_ble_eq_true rfl⟩) (by omega) (mS_T y ad _) rfl rfl hl.1 rfl (Nat.le_of_ble_eq_true rfl) ⟨Nat.zero_le _, Nat.zero_le _⟩ rfl dX4_collectDueLoans_55 (fun H locs V => ?_)
          refine lv_aload_n hx hb dX4_collectDueLoans_58 rfl (lv_at hl 1 rfl) ?_
          refine lv_aload hx hb dX4_collectDueLoans_59 (lv_at hl 0 rfl) ?_
          obtain ⟨q14, hq14, h⟩ := bd_s h
          refine kSS (As := [.ref (ad (12 + v3.toNatClampNeg))]) (rest := []) ⟨hx, hb, hml, hown, hts⟩ Z V (c_X4_judge (l := l) (D := D) (y := y) (ad := ad) hstk hq14) (cwV 1 hts gX4_collectDueLoans_X4_judge rfl rfl rfl (by decide +kernel) ⟨Nat.le_of_ble_eq_true rfl, Nat.le_of_ble_eq_true rfl⟩) (by omega) (mS_T y ad _) rfl rfl hl.1 rfl (Nat.le_of_ble_eq_true rfl) ⟨Nat.zero_le _, Nat.zero_le _⟩ rfl dX4_collectDueLoans_61 (fun H locs V => ?_)
          refine lv_iinc (v := v3 + 1) (lv' := [(3, .int (v3 + 1)), (4, .ref (ad (12 + v3.toNatClampNeg))), (0, .ref (ad 0)), (1, .ref (ad 2)), (2, .int 20)]) hx hb dX4_collectDueLoans_64 hl (k := 4) rfl rfl (by decide) rfl (fun ls hl => ?_)
          refine lv_goto (tgt := 10) hx hb dX4_collectDueLoans_67 (by decide) ?_
          exact ih _ _ h _ _ _ V (lv_sub hl [2, 3, 4, 0] rfl)
def f_X4_collectDueLoans (N : Nat) (σ : mSt)  : Option (Unit × mSt) := f_X4_collectDueLoans_10 N N σ 0
set_option maxHeartbeats 4000000 in
set_option maxRecDepth 100000 in
theorem c_X4_collectDueLoans {l : Launch} {D : va_G} {y : Nat → ClassId} {ad : Nat → Nat} {N : Nat} {σ : mSt}  {q : Unit × mSt} (hstk : l.stackTraces = false) (h : f_X4_collectDueLoans N σ = some q) : mC l yX4_collectDueLoans wsX4_collectDueLoans { frames := 8, cells := 0, slots := 0, locals := 127 } D y 80 ad mZ (mS y ad σ) [.ref (ad 0)] none (mS y ad q.2) 0 0 := by
  refine m_start (cc := cX4_collectDueLoans) (maxL := 5) (ret := none) (by decide) rfl (Nat.le_of_ble_eq_true rfl) (fun p e s m args below meth c ls hB _ V Z hl => ?_)
  obtain ⟨hx, hb, hml, hown, hts, hr, hlk⟩ := id hB
  have hl : lv_has ls 5 [(0, .ref (ad 0))] := hl
  rw [f_X4_collectDueLoans] at h
  refine lv_aload_n hx hb dX4_collectDueLoans_0 rfl (lv_at hl 0 rfl) ?_
  refine rS_L hx hb hts hown (fun _ h => List.mem_cons_of_mem _ (List.mem_append_left _ (List.mem_append_left _ (List.mem_append_left _ (List.mem_append_left _ (List.mem_append_left _ (List.mem_append_right _ h))))))) V (hts _ (List.mem_of_getElem? (i := 1) rfl)) dX4_collectDueLoans_1 ?_
  refine lv_astore_n (lv' := [(1, .ref (ad 2)), (0, .ref (ad 0))]) hx hb dX4_collectDueLoans_4 rfl hl (by decide) rfl (fun ls hl => ?_)
  refine lv_aload_n hx hb dX4_collectDueLoans_5 rfl (lv_at hl 0 rfl) ?_
  refine nS_L hx hb V dX4_collectDueLoans_6 ?_
  refine lv_istore_n (lv' := [(2, .int 20), (1, .ref (ad 2)), (0, .ref (ad 0))]) hx hb dX4_collectDueLoans_7 rfl hl (by decide) rfl (fun ls hl => ?_)
  refine lv_iconst (v := 0) hx hb dX4_collectDueLoans_8 (by decide) ?_
  refine lv_istore_n (lv' := [(3, .int 0), (2, .int 20), (1, .ref (ad 2)), (0, .ref (ad 0))]) hx hb dX4_collectDueLoans_9 rfl hl (by decide) rfl (fun ls hl => ?_)
  exact w_X4_collectDueLoans_10 hstk Z hB _ _ _ h _ _ _ V (lv_sub hl [3, 2, 1, 0] rfl)
-- X4_inspect
def f_X4_inspect (N : Nat) (σ : mSt) (a1 : Nat) (a2 : Nat) : Option (Unit × mSt) := if a1 < 32 then if a2 < 32 then if 15 ≤ (σ 20 a1) then (f_X3_giveTo N σ a1 a2 (2 * (σ 20 a1))).bind fun q13 => (f_X4_playerAt N (mUp q13.2 20 a1 0) ((mUp q13.2 20 a1 0) 18 a1)).bind fun q14 => oCase q14.1 (fun r15 => if r15 < 8 then some ((), (mUp (mUp q14.2 4 r15 ((q14.2 4 r15) + 1)) 27 0 (((mUp q14.2 4 r15 ((q14.2 4 r15) + 1)) 27 0) + 1))) else none) (fun _ => none) else some ((), (mUp σ 20 a1 ((σ 20 a1) / 2))) else none else none
set_option maxHeartbeats 4000000 in
set_option maxRecDepth 100000 in
theorem c_X4_inspect {l : Launch} {D : va_G} {y : Nat → ClassId} {ad : Nat → Nat} {N : Nat} {σ : mSt} {a1 : Nat} {a2 : Nat} {q : Unit × mSt} (hstk : l.stackTraces = false) (h : f_X4_inspect N σ a1 a2 = some q) : mC l yX4_inspect wsX4_inspect { frames := 7, cells := 0, slots := 0, locals := 103 } D y 80 ad mZ (mS y ad σ) [.ref (ad 0), .ref (ad (48 + a1)), .ref (ad (48 + a2))] none (mS y ad q.2) 0 0 := by
  refine m_start (cc := cX4_inspect) (maxL := 3) (ret := none) (by decide) rfl (Nat.le_of_ble_eq_true rfl) (fun p e s m args below meth c ls hB _ V Z hl => ?_)
  obtain ⟨hx, hb, hml, hown, hts, hr, hlk⟩ := id hB
  have hl : lv_has ls 3 [(0, .ref (ad 0)), (1, .ref (ad (48 + a1))), (2, .ref (ad (48 + a2)))] := hl
  rw [f_X4_inspect] at h
  obtain ⟨hg10, h⟩ := gd_s h
  obtain ⟨hg11, h⟩ := gd_s h
  refine lv_aload_n hx hb dX4_inspect_0 rfl (lv_at hl 1 rfl) ?_
  refine gS_S hx hb hts hown (fun _ h => List.mem_cons_of_mem _ (List.mem_append_left _ (List.mem_append_left _ (List.mem_append_left _ (List.mem_append_right _ h))))) V hg10 2 20 (by decide) rfl (hts _ (List.mem_of_getElem? (i := 1) rfl)) dX4_inspect_1 ?_
  refine lv_bipush (v := 15) hx hb dX4_inspect_4 (by decide) ?_
  refine lv_icmp_ge (tgt := 20) hx hb dX4_inspect_6 (by decide) (fun hc12 => ?_) (fun hc12 => ?_)
  · replace h := ite_t hc12 h
    refine lv_aload_n hx hb dX4_inspect_20 rfl (lv_at hl 1 rfl) ?_
    refine lv_aload_n hx hb dX4_inspect_21 rfl (lv_at hl 2 rfl) ?_
    refine lv_iconst (v := 2) hx hb dX4_inspect_22 (by decide) ?_
    refine lv_aload_n hx hb dX4_inspect_23 rfl (lv_at hl 1 rfl) ?_
    refine gS_S hx hb hts hown (fun _ h => List.mem_cons_of_mem _ (List.mem_append_left _ (List.mem_append_left _ (List.mem_append_left _ (List.mem_append_right _ h))))) V hg10 2 20 (by decide) rfl (hts _ (List.mem_of_getElem? (i := 1) rfl)) dX4_inspect_24 ?_
    refine lv_imul hx hb dX4_inspect_27 ?_
    obtain ⟨q13, hq13, h⟩ := bd_s h
    refine kSS (As := [.ref (ad (48 + a2)), .int (2 * (σ 20 a1))]) (rest := []) ⟨hx, hb, hml, hown, hts⟩ Z V (c_X3_giveTo (l := l) (D := D) (y := y) (ad := ad) hstk hq13) (cwV 2 hts gX4_inspect_X3_giveTo rfl rfl rfl (by decide +kernel) ⟨Nat.le_of_ble_eq_true rfl, Nat.le_of_ble_eq_true rfl⟩) (by omega) (mS_S y ad _ hg10) rfl rfl hl.1 rfl (Nat.le_of_ble_eq_true rfl) ⟨Nat.zero_le _, Nat.zero_le _⟩ rfl dX4_inspect_28 (fun H locs V => ?_)
    refine lv_pop hx hb dX4_inspect_31 rfl ?_
    refine lv_aload_n hx hb dX4_inspect_32 rfl (lv_at hl 1 rfl) ?_
    refine lv_iconst (v := 0) hx hb dX4_inspect_33 (by decide) ?_
    refine pS_S hx hb hts hown (fun _ h => List.mem_cons_of_mem _ (List.mem_append_left _ (List.mem_append_left _ (List.mem_append_left _ (List.mem_append_right _ h))))) V hg10 2 20 (by decide) rfl (hts _ (List.mem_of_getElem? (i := 1) rfl)) dX4_inspect_34 (fun H locs V => ?_)
    refine lv_aload_n hx hb dX4_inspect_37 rfl (lv_at hl 0 rfl) ?_
    refine lv_aload_n hx hb dX4_inspect_38 rfl (lv_at hl 1 rfl) ?_
    refine gS_S hx hb hts hown (fun _ h => List.mem_cons_of_mem _ (List.mem_append_left _ (List.mem_append_left _ (List.mem_append_left _ (List.mem_append_right _ h))))) V hg10 0 18 (by decide) rfl (hts _ (List.mem_of_getElem? (i := 2) rfl)) dX4_inspect_39 ?_
    obtain ⟨q14, hq14, h⟩ := bd_s h
    cases ho17 : q14.1 with
    | inl r15 =>
      replace h := oCase_l ho17 h
      obtain ⟨hg18, h⟩ := gd_s h
      refine kSS (As := [.int ((mUp q13.2 20 a1 0) 18 a1)]) (rest := []) ⟨hx, hb, hml, hown, hts⟩ Z V (mOr_plain ho17 (c_X4_playerAt (l := l) (D := D) (y := y) (ad := ad) hstk hq14)) (cwV 1 hts gX4_inspect_X4_playerAt rfl rfl rfl (by decide +kernel) ⟨Nat.le_of_ble_eq_true rfl, Nat.le_of_ble_eq_true rfl⟩) (by omega) (mS_T y ad _) rfl rfl hl.1 rfl (Nat.le_of_ble_eq_true rfl) ⟨Nat.zero_le _, Nat.zero_le _⟩ rfl dX4_inspect_42 (fun H locs V => ?_)
      refine lv_dup hx hb dX4_inspect_45 rfl ?_
      refine gS_P hx hb hts hown (fun _ h => List.mem_cons_of_mem _ (List.mem_append_left _ (List.mem_append_left _ (List.mem_append_right _ h)))) V hg18 4 4 (by decide) rfl (hts _ (List.mem_of_getElem? (i := 3) rfl)) dX4_inspect_46 ?_
      refine lv_iconst (v := 1) hx hb dX4_inspect_49 (by decide) ?_
      refine lv_iadd hx hb dX4_inspect_50 ?_
      refine pS_P hx hb hts hown (fun _ h => List.mem_cons_of_mem _ (List.mem_append_left _ (List.mem_append_left _ (List.mem_append_right _ h)))) V hg18 4 4 (by decide) rfl (hts _ (List.mem_of_getElem? (i := 3) rfl)) dX4_inspect_51 (fun H locs V => ?_)
      refine lv_aload_n hx hb dX4_inspect_54 rfl (lv_at hl 0 rfl) ?_
      refine lv_dup hx hb dX4_inspect_55 rfl ?_
      refine gS_T hx hb hts hown (fun _ h => List.mem_cons_of_mem _ (List.mem_append_left _ (List.mem_append_right _ h))) V 6 27 (by decide) rfl (hts _ (List.mem_of_getElem? (i := 4) rfl)) dX4_inspect_56 ?_
      refine lv_iconst (v := 1) hx hb dX4_inspect_59 (by decide) ?_
      refine lv_iadd hx hb dX4_inspect_60 ?_
      refine pS_T hx hb hts hown (fun _ h => List.mem_cons_of_mem _ (List.mem_append_left _ (List.mem_append_right _ h))) V 6 27 (by decide) rfl (hts _ (List.mem_of_getElem? (i := 4) rfl)) dX4_inspect_61 (fun H locs V => ?_)
      obtain rfl := Option.some.inj h
      exact m_vret hx hb hr hlk V (Nat.zero_le _) (Nat.zero_le _) dX4_inspect_64
    | inr e16 =>
      exact nomatch (oCase_r ho17 h)
  · replace h := ite_f hc12 h
    refine lv_aload_n hx hb dX4_inspect_9 rfl (lv_at hl 1 rfl) ?_
    refine lv_dup hx hb dX4_inspect_10 rfl ?_
    refine gS_S hx hb hts hown (fun _ h => List.mem_cons_of_mem _ (List.mem_append_left _ (List.mem_append_left _ (List.mem_append_left _ (List.mem_append_right _ h))))) V hg10 2 20 (by decide) rfl (hts _ (List.mem_of_getElem? (i := 1) rfl)) dX4_inspect_11 ?_
    refine lv_iconst (v := 2) hx hb dX4_inspect_14 (by decide) ?_
    refine lv_idiv hx hb dX4_inspect_15 (by decide) ?_
    refine pS_S hx hb hts hown (fun _ h => List.mem_cons_of_mem _ (List.mem_append_left _ (List.mem_append_left _ (List.mem_append_left _ (List.mem_append_right _ h))))) V hg10 2 20 (by decide) rfl (hts _ (List.mem_of_getElem? (i := 1) rfl)) dX4_inspect_16 (fun H locs V => ?_)
    obtain rfl := Option.some.inj h
    exact m_vret hx hb hr hlk V (Nat.zero_le _) (Nat.zero_le _) dX4_inspect_19
-- X4_lookForThieves
def f_X4_lookForThieves_10 (N : Nat)   : Nat → mSt → Int32 → Option (Unit × mSt)
  | 0, _, _ => none
  | n + 1, σ, v3 => if 16 ≤ v3 then some ((), σ) else if mIn v3 16 then (f_X0_runs N σ v3.toNatClampNeg).bind fun q9 => if q9.1 = 0 then f_X4_lookForThieves_10 N n q9.2 (v3 + 1) else (f_X4_inspect N q9.2 (2 * v3.toNatClampNeg) (2 * v3.toNatClampNeg + 1)).bind fun q11 => (f_X4_inspect N q11.2 (2 * v3.toNatClampNeg + 1) (2 * v3.toNatClampNeg)).bind fun q12 => f_X4_lookForThieves_10 N n q12.2 (v3 + 1) else none
set_option maxHeartbeats 4000000 in
set_option maxRecDepth 100000 in
theorem w_X4_lookForThieves_10 {l : Launch} {D : va_G} {y : Nat → ClassId} {ad : Nat → Nat} {N : Nat} {p : Program} {e : Env} {s : State} {m : MethodId} {args : Array Value} {below : List Frame} {meth : Method} {c : Code} (hstk : l.stackTraces = false) (Z : mZ (mFree 80 ad s.heap.size) s) (hB : mBd p s m args meth c cX4_lookForThieves 5 wsX4_lookForThieves RX4 none)  {q : Unit × mSt}   : ∀ (n : Nat) (σ : mSt) (v3 : Int32), f_X4_lookForThieves_10 N   n σ v3 = some q → ∀ (H : Heap) (locs : List Loc) (ls : Array Slot), mV D y (mFree 80 ad s.heap.size) s s.heap H locs 80 ad (mS y ad σ) → lv_has ls 5 [(0, .ref (ad 0)), (1, .ref (ad 3)), (2, .int 16), (3, .int v3)] → W p l e { frames := 8, cells := 0, slots := 0, locals := 125 } s m args below meth c H locs 0 0 (MQ below (mQ none D 80 ad (mS y ad q.2) s.heap.size) args s 0 0 (mFree 80 ad s.heap.size)) (F0 m 10 ls []) := by
  obtain ⟨hx, hb, hml, hown, hts, hr, hlk⟩ := id hB
  intro n
  induction n with
  | zero =>
    intro σ v3 h
    exact nomatch h
  | succ n ih =>
    intro σ v3 h H locs ls V hl
    rw [f_X4_lookForThieves_10] at h
    refine lv_iload_n hx hb dX4_lookForThieves_10 rfl (lv_at hl 3 rfl) ?_
    refine lv_iload_n hx hb dX4_lookForThieves_11 rfl (lv_at hl 2 rfl) ?_
    refine lv_icmp_ge (tgt := 62) hx hb dX4_lookForThieves_12 (by decide) (fun hc7 => ?_) (fun hc7 => ?_)
    · replace h := ite_t hc7 h
      obtain rfl := Option.some.inj h
      exact m_vret hx hb hr hlk V (Nat.zero_le _) (Nat.zero_le _) dX4_lookForThieves_62
    · replace h := ite_f hc7 h
      refine lv_aload_n hx hb dX4_lookForThieves_15 rfl (lv_at hl 1 rfl) ?_
      refine lv_iload_n hx hb dX4_lookForThieves_16 rfl (lv_at hl 3 rfl) ?_
      obtain ⟨hi8, h⟩ := gd_s h
      refine aS_G hx hb V hi8 dX4_lookForThieves_17 ?_
      refine lv_astore (lv' := [(4, .ref (ad (32 + v3.toNatClampNeg))), (0, .ref (ad 0)), (1, .ref (ad 3)), (2, .int 16), (3, .int v3)]) hx hb dX4_lookForThieves_18 hl (by decide) rfl (fun ls hl => ?_)
      refine lv_aload hx hb dX4_lookForThieves_20 (lv_at hl 0 rfl) ?_
      obtain ⟨q9, hq9, h⟩ := bd_s h
      refine kSS (As := []) (rest := []) ⟨hx, hb, hml, hown, hts⟩ Z V (c_X0_runs (l := l) (D := D) (y := y) (ad := ad) hstk hq9) (cwV 0 hts gX4_lookForThieves_X0_runs rfl rfl rfl (by decide +kernel) ⟨Nat.le_of_ble_eq_true rfl, Nat.le_of_ble_eq_true rfl⟩) (by omega) (mS_G y ad _ hi8.2) rfl rfl hl.1 rfl (Nat.le_of_ble_eq_true rfl) ⟨Nat.zero_le _, Nat.zero_le _⟩ rfl dX4_lookForThieves_22 (fun H locs V => ?_)
      refine lv_if_eq (tgt := 56) hx hb dX4_lookForThieves_25 (by decide) (fun hc10 => ?_) (fun hc10 => ?_)
      · replace h := ite_t hc10 h
        refine lv_iinc (v := v3 + 1) (lv' := [(3, .int (v3 + 1)), (4, .ref (ad (32 + v3.toNatClampNeg))), (0, .ref (ad 0)), (1, .ref (ad 3)), (2, .int 16)]) hx hb dX4_lookForThieves_56 hl (k := 4) rfl rfl (by decide) rfl (fun ls hl => ?_)
        refine lv_goto (tgt := 10) hx hb dX4_lookForThieves_59 (by decide) ?_
        exact ih _ _ h _ _ _ V (lv_sub hl [2, 3, 4, 0] rfl)
      · replace h := ite_f hc10 h
        refine lv_aload_n hx hb dX4_lookForThieves_28 rfl (lv_at hl 1 rfl) ?_
        refine lv_aload hx hb dX4_lookForThieves_29 (lv_at hl 0 rfl) ?_
        refine sS_w hx hb hts hown (fun _ h => List.mem_cons_of_mem _ (List.mem_append_left _ (List.mem_append_left _ (List.mem_append_left _ (List.mem_append_right _ h))))) V hi8.2 (hts _ (List.mem_of_getElem? (i := 2) rfl)) dX4_lookForThieves_31 ?_
        refine lv_aload hx hb dX4_lookForThieves_34 (lv_at hl 0 rfl) ?_
        refine sS_b hx hb hts hown (fun _ h => List.mem_cons_of_mem _ (List.mem_append_left _ (List.mem_append_left _ (List.mem_append_left _ (List.mem_append_right _ h))))) V hi8.2 (hts _ (List.mem_of_getElem? (i := 3) rfl)) dX4_lookForThieves_36 ?_
        obtain ⟨q11, hq11, h⟩ := bd_s h
        refine kSS (As := [.ref (ad (48 + (2 * v3.toNatClampNeg))), .ref (ad (48 + (2 * v3.toNatClampNeg + 1)))]) (rest := []) ⟨hx, hb, hml, hown, hts⟩ Z V (c_X4_inspect (l := l) (D := D) (y := y) (ad := ad) hstk hq11) (cwV 2 hts gX4_lookForThieves_X4_inspect rfl rfl rfl (by decide +kernel) ⟨Nat.le_of_ble_eq_true rfl, Nat.le_of_ble_eq_true rfl⟩) (by omega) (mS_T y ad _) rfl rfl hl.1 rfl (Nat.le_of_ble_eq_true rfl) ⟨Nat.zero_le _, Nat.zero_le _⟩ rfl dX4_lookForThieves_39 (fun H locs V => ?_)
        refine lv_aload_n hx hb dX4_lookForThieves_42 rfl (lv_at hl 1 rfl) ?_
        refine lv_aload hx hb dX4_lookForThieves_43 (lv_at hl 0 rfl) ?_
        refine sS_b hx hb hts hown (fun _ h => List.mem_cons_of_mem _ (List.mem_append_left _ (List.mem_append_left _ (List.mem_append_left _ (List.mem_append_right _ h))))) V hi8.2 (hts _ (List.mem_of_getElem? (i := 3) rfl)) dX4_lookForThieves_45 ?_
        refine lv_aload hx hb dX4_lookForThieves_48 (lv_at hl 0 rfl) ?_
        refine sS_w hx hb hts hown (fun _ h => List.mem_cons_of_mem _ (List.mem_append_left _ (List.mem_append_left _ (List.mem_append_left _ (List.mem_append_right _ h))))) V hi8.2 (hts _ (List.mem_of_getElem? (i := 2) rfl)) dX4_lookForThieves_50 ?_
        obtain ⟨q12, hq12, h⟩ := bd_s h
        refine kSS (As := [.ref (ad (48 + (2 * v3.toNatClampNeg + 1))), .ref (ad (48 + (2 * v3.toNatClampNeg)))]) (rest := []) ⟨hx, hb, hml, hown, hts⟩ Z V (c_X4_inspect (l := l) (D := D) (y := y) (ad := ad) hstk hq12) (cwV 2 hts gX4_lookForThieves_X4_inspect rfl rfl rfl (by decide +kernel) ⟨Nat.le_of_ble_eq_true rfl, Nat.le_of_ble_eq_true rfl⟩) (by omega) (mS_T y ad _) rfl rfl hl.1 rfl (Nat.le_of_ble_eq_true rfl) ⟨Nat.zero_le _, Nat.zero_le _⟩ rfl dX4_lookForThieves_53 (fun H locs V => ?_)
        refine lv_iinc (v := v3 + 1) (lv' := [(3, .int (v3 + 1)), (4, .ref (ad (32 + v3.toNatClampNeg))), (0, .ref (ad 0)), (1, .ref (ad 3)), (2, .int 16)]) hx hb dX4_lookForThieves_56 hl (k := 4) rfl rfl (by decide) rfl (fun ls hl => ?_)
        refine lv_goto (tgt := 10) hx hb dX4_lookForThieves_59 (by decide) ?_
        exact ih _ _ h _ _ _ V (lv_sub hl [2, 3, 4, 0] rfl)
def f_X4_lookForThieves (N : Nat) (σ : mSt)  : Option (Unit × mSt) := f_X4_lookForThieves_10 N N σ 0
set_option maxHeartbeats 4000000 in
set_option maxRecDepth 100000 in
theorem c_X4_lookForThieves {l : Launch} {D : va_G} {y : Nat → ClassId} {ad : Nat → Nat} {N : Nat} {σ : mSt}  {q : Unit × mSt} (hstk : l.stackTraces = false) (h : f_X4_lookForThieves N σ = some q) : mC l yX4_lookForThieves wsX4_lookForThieves { frames := 8, cells := 0, slots := 0, locals := 125 } D y 80 ad mZ (mS y ad σ) [.ref (ad 0)] none (mS y ad q.2) 0 0 := by
  refine m_start (cc := cX4_lookForThieves) (maxL := 5) (ret := none) (by decide) rfl (Nat.le_of_ble_eq_true rfl) (fun p e s m args below meth c ls hB _ V Z hl => ?_)
  obtain ⟨hx, hb, hml, hown, hts, hr, hlk⟩ := id hB
  have hl : lv_has ls 5 [(0, .ref (ad 0))] := hl
  rw [f_X4_lookForThieves] at h
  refine lv_aload_n hx hb dX4_lookForThieves_0 rfl (lv_at hl 0 rfl) ?_
  refine rS_G hx hb hts hown (fun _ h => List.mem_cons_of_mem _ (List.mem_append_left _ (List.mem_append_left _ (List.mem_append_left _ (List.mem_append_left _ (List.mem_append_right _ h)))))) V (hts _ (List.mem_of_getElem? (i := 1) rfl)) dX4_lookForThieves_1 ?_
  refine lv_astore_n (lv' := [(1, .ref (ad 3)), (0, .ref (ad 0))]) hx hb dX4_lookForThieves_4 rfl hl (by decide) rfl (fun ls hl => ?_)
  refine lv_aload_n hx hb dX4_lookForThieves_5 rfl (lv_at hl 0 rfl) ?_
  refine nS_G hx hb V dX4_lookForThieves_6 ?_
  refine lv_istore_n (lv' := [(2, .int 16), (1, .ref (ad 3)), (0, .ref (ad 0))]) hx hb dX4_lookForThieves_7 rfl hl (by decide) rfl (fun ls hl => ?_)
  refine lv_iconst (v := 0) hx hb dX4_lookForThieves_8 (by decide) ?_
  refine lv_istore_n (lv' := [(3, .int 0), (2, .int 16), (1, .ref (ad 3)), (0, .ref (ad 0))]) hx hb dX4_lookForThieves_9 rfl hl (by decide) rfl (fun ls hl => ?_)
  exact w_X4_lookForThieves_10 hstk Z hB _ _ _ h _ _ _ V (lv_sub hl [3, 2, 1, 0] rfl)
-- X4_letGoBy
def f_X4_letGoBy_39 (N : Nat) (a1 : Int32) (rec6 : mSt → Int32 → Option (Unit × mSt)) (σ : mSt) (v2 : Int32) : Option (Unit × mSt) := (f_X4_collectDueLoans N σ).bind fun q9 => if ((q9.2 24 0) - (q9.2 24 0) / 30 * 30) = 0 then (f_X4_lookForThieves N q9.2).bind fun q11 => rec6 q11.2 (v2 + 1) else rec6 q9.2 (v2 + 1)
set_option maxHeartbeats 4000000 in
set_option maxRecDepth 100000 in
theorem w_X4_letGoBy_39 {l : Launch} {D : va_G} {y : Nat → ClassId} {ad : Nat → Nat} {N : Nat} {p : Program} {e : Env} {s : State} {m : MethodId} {args : Array Value} {below : List Frame} {meth : Method} {c : Code} (hstk : l.stackTraces = false) (Z : mZ (mFree 80 ad s.heap.size) s) (hB : mBd p s m args meth c cX4_letGoBy 3 wsX4_letGoBy RX4 none) {a1 : Int32} {q : Unit × mSt} {rec6 : mSt → Int32 → Option (Unit × mSt)} (hrec6 : ∀ (σ : mSt) (v2 : Int32), rec6 σ v2 = some q → ∀ (H : Heap) (locs : List Loc) (ls : Array Slot), mV D y (mFree 80 ad s.heap.size) s s.heap H locs 80 ad (mS y ad σ) → lv_has ls 3 [(0, .ref (ad 0)), (1, .int a1), (2, .int v2)] → W p l e { frames := 9, cells := 0, slots := 0, locals := 153 } s m args below meth c H locs 0 0 (MQ below (mQ none D 80 ad (mS y ad q.2) s.heap.size) args s 0 0 (mFree 80 ad s.heap.size)) (F0 m 6 ls [])) : ∀ (σ : mSt) (v2 : Int32), f_X4_letGoBy_39 N a1 rec6 σ v2 = some q → ∀ (H : Heap) (locs : List Loc) (ls : Array Slot), mV D y (mFree 80 ad s.heap.size) s s.heap H locs 80 ad (mS y ad σ) → lv_has ls 3 [(0, .ref (ad 0)), (1, .int a1), (2, .int v2)] → W p l e { frames := 9, cells := 0, slots := 0, locals := 153 } s m args below meth c H locs 0 0 (MQ below (mQ none D 80 ad (mS y ad q.2) s.heap.size) args s 0 0 (mFree 80 ad s.heap.size)) (F0 m 39 ls []) := by
  obtain ⟨hx, hb, hml, hown, hts, hr, hlk⟩ := id hB
  intro σ v2 h H locs ls V hl
  rw [f_X4_letGoBy_39] at h
  refine lv_aload_n hx hb dX4_letGoBy_39 rfl (lv_at hl 0 rfl) ?_
  obtain ⟨q9, hq9, h⟩ := bd_s h
  refine kSS (As := []) (rest := []) ⟨hx, hb, hml, hown, hts⟩ Z V (c_X4_collectDueLoans (l := l) (D := D) (y := y) (ad := ad) hstk hq9) (cwV 0 hts gX4_letGoBy_X4_collectDueLoans rfl rfl rfl (by decide +kernel) ⟨Nat.le_of_ble_eq_true rfl, Nat.le_of_ble_eq_true rfl⟩) (by omega) (mS_T y ad _) rfl rfl hl.1 rfl (Nat.le_of_ble_eq_true rfl) ⟨Nat.zero_le _, Nat.zero_le _⟩ rfl dX4_letGoBy_40 (fun H locs V => ?_)
  refine lv_aload_n hx hb dX4_letGoBy_43 rfl (lv_at hl 0 rfl) ?_
  refine gS_T hx hb hts hown (fun _ h => List.mem_cons_of_mem _ (List.mem_append_left _ (List.mem_append_left _ (List.mem_append_left _ (List.mem_append_left _ (List.mem_append_left _ (List.mem_append_right _ h))))))) V 3 24 (by decide) rfl (hts _ (List.mem_of_getElem? (i := 1) rfl)) dX4_letGoBy_44 ?_
  refine lv_bipush (v := 30) hx hb dX4_letGoBy_47 (by decide) ?_
  refine lv_irem hx hb dX4_letGoBy_49 (by decide) ?_
  refine lv_if_ne (tgt := 57) hx hb dX4_letGoBy_50 (by decide) (fun hc10 => ?_) (fun hc10 => ?_)
  · replace h := ite_f hc10 h
    refine lv_iinc (v := v2 + 1) (lv' := [(2, .int (v2 + 1)), (0, .ref (ad 0)), (1, .int a1)]) hx hb dX4_letGoBy_57 hl (k := 2) rfl rfl (by decide) rfl (fun ls hl => ?_)
    refine lv_goto (tgt := 6) hx hb dX4_letGoBy_60 (by decide) ?_
    exact hrec6 _ _ h _ _ _ V (lv_sub hl [1, 2, 0] rfl)
  · replace h := ite_t hc10 h
    refine lv_aload_n hx hb dX4_letGoBy_53 rfl (lv_at hl 0 rfl) ?_
    obtain ⟨q11, hq11, h⟩ := bd_s h
    refine kSS (As := []) (rest := []) ⟨hx, hb, hml, hown, hts⟩ Z V (c_X4_lookForThieves (l := l) (D := D) (y := y) (ad := ad) hstk hq11) (cwV 0 hts gX4_letGoBy_X4_lookForThieves rfl rfl rfl (by decide +kernel) ⟨Nat.le_of_ble_eq_true rfl, Nat.le_of_ble_eq_true rfl⟩) (by omega) (mS_T y ad _) rfl rfl hl.1 rfl (Nat.le_of_ble_eq_true rfl) ⟨Nat.zero_le _, Nat.zero_le _⟩ rfl dX4_letGoBy_54 (fun H locs V => ?_)
    refine lv_iinc (v := v2 + 1) (lv' := [(2, .int (v2 + 1)), (0, .ref (ad 0)), (1, .int a1)]) hx hb dX4_letGoBy_57 hl (k := 2) rfl rfl (by decide) rfl (fun ls hl => ?_)
    refine lv_goto (tgt := 6) hx hb dX4_letGoBy_60 (by decide) ?_
    exact hrec6 _ _ h _ _ _ V (lv_sub hl [1, 2, 0] rfl)
def f_X4_letGoBy_6 (N : Nat) (a1 : Int32)  : Nat → mSt → Int32 → Option (Unit × mSt)
  | 0, _, _ => none
  | n + 1, σ, v2 => if a1 ≤ v2 then some ((), σ) else (f_X4_runClocks N (mUp σ 24 0 ((σ 24 0) + 1))).bind fun q13 => if ((q13.2 24 0) - (q13.2 24 0) / 60 * 60) = 0 then (f_X4_addInterest N q13.2).bind fun q15 => f_X4_letGoBy_39 N a1 (fun σ v2 => f_X4_letGoBy_6 N a1 n σ v2) q15.2 v2 else f_X4_letGoBy_39 N a1 (fun σ v2 => f_X4_letGoBy_6 N a1 n σ v2) q13.2 v2
set_option maxHeartbeats 4000000 in
set_option maxRecDepth 100000 in
theorem w_X4_letGoBy_6 {l : Launch} {D : va_G} {y : Nat → ClassId} {ad : Nat → Nat} {N : Nat} {p : Program} {e : Env} {s : State} {m : MethodId} {args : Array Value} {below : List Frame} {meth : Method} {c : Code} (hstk : l.stackTraces = false) (Z : mZ (mFree 80 ad s.heap.size) s) (hB : mBd p s m args meth c cX4_letGoBy 3 wsX4_letGoBy RX4 none) {a1 : Int32} {q : Unit × mSt}   : ∀ (n : Nat) (σ : mSt) (v2 : Int32), f_X4_letGoBy_6 N a1  n σ v2 = some q → ∀ (H : Heap) (locs : List Loc) (ls : Array Slot), mV D y (mFree 80 ad s.heap.size) s s.heap H locs 80 ad (mS y ad σ) → lv_has ls 3 [(0, .ref (ad 0)), (1, .int a1), (2, .int v2)] → W p l e { frames := 9, cells := 0, slots := 0, locals := 153 } s m args below meth c H locs 0 0 (MQ below (mQ none D 80 ad (mS y ad q.2) s.heap.size) args s 0 0 (mFree 80 ad s.heap.size)) (F0 m 6 ls []) := by
  obtain ⟨hx, hb, hml, hown, hts, hr, hlk⟩ := id hB
  intro n
  induction n with
  | zero =>
    intro σ v2 h
    exact nomatch h
  | succ n ih =>
    intro σ v2 h H locs ls V hl
    rw [f_X4_letGoBy_6] at h
    refine lv_iload_n hx hb dX4_letGoBy_6 rfl (lv_at hl 2 rfl) ?_
    refine lv_iload_n hx hb dX4_letGoBy_7 rfl (lv_at hl 1 rfl) ?_
    refine lv_icmp_ge (tgt := 63) hx hb dX4_letGoBy_8 (by decide) (fun hc12 => ?_) (fun hc12 => ?_)
    · replace h := ite_t hc12 h
      obtain rfl := Option.some.inj h
      exact m_vret hx hb hr hlk V (Nat.zero_le _) (Nat.zero_le _) dX4_letGoBy_63
    · replace h := ite_f hc12 h
      refine lv_aload_n hx hb dX4_letGoBy_11 rfl (lv_at hl 0 rfl) ?_
      refine lv_dup hx hb dX4_letGoBy_12 rfl ?_
      refine gS_T hx hb hts hown (fun _ h => List.mem_cons_of_mem _ (List.mem_append_left _ (List.mem_append_left _ (List.mem_append_left _ (List.mem_append_left _ (List.mem_append_left _ (List.mem_append_right _ h))))))) V 3 24 (by decide) rfl (hts _ (List.mem_of_getElem? (i := 1) rfl)) dX4_letGoBy_13 ?_
      refine lv_iconst (v := 1) hx hb dX4_letGoBy_16 (by decide) ?_
      refine lv_iadd hx hb dX4_letGoBy_17 ?_
      refine pS_T hx hb hts hown (fun _ h => List.mem_cons_of_mem _ (List.mem_append_left _ (List.mem_append_left _ (List.mem_append_left _ (List.mem_append_left _ (List.mem_append_left _ (List.mem_append_right _ h))))))) V 3 24 (by decide) rfl (hts _ (List.mem_of_getElem? (i := 1) rfl)) dX4_letGoBy_18 (fun H locs V => ?_)
      refine lv_aload_n hx hb dX4_letGoBy_21 rfl (lv_at hl 0 rfl) ?_
      obtain ⟨q13, hq13, h⟩ := bd_s h
      refine kSS (As := []) (rest := []) ⟨hx, hb, hml, hown, hts⟩ Z V (c_X4_runClocks (l := l) (D := D) (y := y) (ad := ad) hstk hq13) (cwV 0 hts gX4_letGoBy_X4_runClocks rfl rfl rfl (by decide +kernel) ⟨Nat.le_of_ble_eq_true rfl, Nat.le_of_ble_eq_true rfl⟩) (by omega) (mS_T y ad _) rfl rfl hl.1 rfl (Nat.le_of_ble_eq_true rfl) ⟨Nat.zero_le _, Nat.zero_le _⟩ rfl dX4_letGoBy_22 (fun H locs V => ?_)
      refine lv_aload_n hx hb dX4_letGoBy_25 rfl (lv_at hl 0 rfl) ?_
      refine gS_T hx hb hts hown (fun _ h => List.mem_cons_of_mem _ (List.mem_append_left _ (List.mem_append_left _ (List.mem_append_left _ (List.mem_append_left _ (List.mem_append_left _ (List.mem_append_right _ h))))))) V 3 24 (by decide) rfl (hts _ (List.mem_of_getElem? (i := 1) rfl)) dX4_letGoBy_26 ?_
      refine lv_bipush (v := 60) hx hb dX4_letGoBy_29 (by decide) ?_
      refine lv_irem hx hb dX4_letGoBy_31 (by decide) ?_
      refine lv_if_ne (tgt := 39) hx hb dX4_letGoBy_32 (by decide) (fun hc14 => ?_) (fun hc14 => ?_)
      · replace h := ite_f hc14 h
        exact w_X4_letGoBy_39 hstk Z hB ih _ _ h _ _ _ V (lv_sub hl [0, 1, 2] rfl)
      · replace h := ite_t hc14 h
        refine lv_aload_n hx hb dX4_letGoBy_35 rfl (lv_at hl 0 rfl) ?_
        obtain ⟨q15, hq15, h⟩ := bd_s h
        refine kSS (As := []) (rest := []) ⟨hx, hb, hml, hown, hts⟩ Z V (c_X4_addInterest (l := l) (D := D) (y := y) (ad := ad) hstk hq15) (cwV 0 hts gX4_letGoBy_X4_addInterest rfl rfl rfl (by decide +kernel) ⟨Nat.le_of_ble_eq_true rfl, Nat.le_of_ble_eq_true rfl⟩) (by omega) (mS_T y ad _) rfl rfl hl.1 rfl (Nat.le_of_ble_eq_true rfl) ⟨Nat.zero_le _, Nat.zero_le _⟩ rfl dX4_letGoBy_36 (fun H locs V => ?_)
        exact w_X4_letGoBy_39 hstk Z hB ih _ _ h _ _ _ V (lv_sub hl [0, 1, 2] rfl)
def f_X4_letGoBy (N : Nat) (σ : mSt) (a1 : Int32) : Option (Unit × mSt) := (f_X4_forgetWhatPassed N σ).bind fun q16 => f_X4_letGoBy_6 N a1 N q16.2 0
set_option maxHeartbeats 4000000 in
set_option maxRecDepth 100000 in
theorem c_X4_letGoBy {l : Launch} {D : va_G} {y : Nat → ClassId} {ad : Nat → Nat} {N : Nat} {σ : mSt} {a1 : Int32} {q : Unit × mSt} (hstk : l.stackTraces = false) (h : f_X4_letGoBy N σ a1 = some q) : mC l yX4_letGoBy wsX4_letGoBy { frames := 9, cells := 0, slots := 0, locals := 153 } D y 80 ad mZ (mS y ad σ) [.ref (ad 0), .int a1] none (mS y ad q.2) 0 0 := by
  refine m_start (cc := cX4_letGoBy) (maxL := 3) (ret := none) (by decide) rfl (Nat.le_of_ble_eq_true rfl) (fun p e s m args below meth c ls hB _ V Z hl => ?_)
  obtain ⟨hx, hb, hml, hown, hts, hr, hlk⟩ := id hB
  have hl : lv_has ls 3 [(0, .ref (ad 0)), (1, .int a1)] := hl
  rw [f_X4_letGoBy] at h
  refine lv_aload_n hx hb dX4_letGoBy_0 rfl (lv_at hl 0 rfl) ?_
  obtain ⟨q16, hq16, h⟩ := bd_s h
  refine kSS (As := []) (rest := []) ⟨hx, hb, hml, hown, hts⟩ Z V (c_X4_forgetWhatPassed (l := l) (D := D) (y := y) (ad := ad) hstk hq16) (cwV 0 hts gX4_letGoBy_X4_forgetWhatPassed rfl rfl rfl (by decide +kernel) ⟨Nat.le_of_ble_eq_true rfl, Nat.le_of_ble_eq_true rfl⟩) (by omega) (mS_T y ad _) rfl rfl hl.1 rfl (Nat.le_of_ble_eq_true rfl) ⟨Nat.zero_le _, Nat.zero_le _⟩ rfl dX4_letGoBy_1 (fun H locs V => ?_)
  refine lv_iconst (v := 0) hx hb dX4_letGoBy_4 (by decide) ?_
  refine lv_istore_n (lv' := [(2, .int 0), (0, .ref (ad 0)), (1, .int a1)]) hx hb dX4_letGoBy_5 rfl hl (by decide) rfl (fun ls hl => ?_)
  exact w_X4_letGoBy_6 hstk Z hB _ _ _ h _ _ _ V (lv_sub hl [1, 2, 0] rfl)
