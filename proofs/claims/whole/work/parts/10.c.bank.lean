-- X5_isOutside
def f_X5_isOutside (N : Nat) (σ τ : mSt) (a1 : Int32) (a2 : Int32) (a3 : Int32) : Option (Int32 × mSt × mSt) := if a1 < a2 then some (1, σ, τ) else if a1 ≤ a3 then some (0, σ, τ) else some (1, σ, τ)
set_option maxHeartbeats 4000000 in
set_option maxRecDepth 100000 in
theorem c_X5_isOutside {l : Launch} {D : va_G} {y : Nat → ClassId} {ad : Nat → Nat} {N : Nat} {σ τ : mSt} {a1 : Int32} {a2 : Int32} {a3 : Int32} {q : Int32 × mSt × mSt} (hstk : l.stackTraces = false) (h : f_X5_isOutside N σ τ a1 a2 a3 = some q) : mC l yX5_isOutside wsX5_isOutside { frames := 0, cells := 0, slots := 0, locals := 0 } D y 161 ad mZ (mB y ad σ τ) [.int a1, .int a2, .int a3] (some (.int q.1)) (mB y ad q.2.1 q.2.2) 0 0 := by
  refine m_start (cc := cX5_isOutside) (maxL := 3) (ret := (some .boolean)) (by decide) rfl (Nat.le_of_ble_eq_true rfl) (fun p e s m args below meth c ls hB _ V Z hl => ?_)
  obtain ⟨hx, hb, hml, hown, hts, hr, hlk⟩ := id hB
  have hl : lv_has ls 3 [(0, .int a1), (1, .int a2), (2, .int a3)] := hl
  rw [f_X5_isOutside] at h
  refine lv_iload_n hx hb dX5_isOutside_0 rfl (lv_at hl 0 rfl) ?_
  refine lv_iload_n hx hb dX5_isOutside_1 rfl (lv_at hl 1 rfl) ?_
  refine lv_icmp_lt (tgt := 10) hx hb dX5_isOutside_2 (by decide) (fun hc3 => ?_) (fun hc3 => ?_)
  · replace h := ite_t hc3 h
    refine lv_iconst (v := 1) hx hb dX5_isOutside_10 (by decide) ?_
    refine lv_goto (tgt := 15) hx hb dX5_isOutside_11 (by decide) ?_
    obtain rfl := Option.some.inj h
    exact m_zret hx hb hr hlk V (Or.inr rfl) (Nat.zero_le _) (Nat.zero_le _) dX5_isOutside_15
  · replace h := ite_f hc3 h
    refine lv_iload_n hx hb dX5_isOutside_5 rfl (lv_at hl 0 rfl) ?_
    refine lv_iload_n hx hb dX5_isOutside_6 rfl (lv_at hl 2 rfl) ?_
    refine lv_icmp_le (tgt := 14) hx hb dX5_isOutside_7 (by decide) (fun hc4 => ?_) (fun hc4 => ?_)
    · replace h := ite_t hc4 h
      refine lv_iconst (v := 0) hx hb dX5_isOutside_14 (by decide) ?_
      obtain rfl := Option.some.inj h
      exact m_zret hx hb hr hlk V (Or.inl rfl) (Nat.zero_le _) (Nat.zero_le _) dX5_isOutside_15
    · replace h := ite_f hc4 h
      refine lv_iconst (v := 1) hx hb dX5_isOutside_10 (by decide) ?_
      refine lv_goto (tgt := 15) hx hb dX5_isOutside_11 (by decide) ?_
      obtain rfl := Option.some.inj h
      exact m_zret hx hb hr hlk V (Or.inr rfl) (Nat.zero_le _) (Nat.zero_le _) dX5_isOutside_15
-- X5_addPlayer
def f_X5_addPlayer (N : Nat) (σ τ : mSt) (a1 : Int32) : Option ((Int32 ⊕ String) × mSt × mSt) := (f_X5_isOutside N σ τ a1 0 1000000).bind fun q9 => if q9.1 = 0 then if (q9.2.1 21 0) < 8 then (f_X4_playerAt N (mUp q9.2.1 21 0 ((q9.2.1 21 0) + 1)) (q9.2.1 21 0)).bind fun q12 => oCase q12.1 (fun r13 => if r13 < 8 then some (.inl (q9.2.1 21 0), (mUp q12.2 0 r13 a1), q9.2.2) else none) (fun e14 => some (.inr e14, q12.2, q9.2.2)) else some (.inr "java/lang/IllegalStateException", q9.2.1, q9.2.2) else some (.inr "java/lang/IllegalArgumentException", q9.2.1, q9.2.2)
set_option maxHeartbeats 4000000 in
set_option maxRecDepth 100000 in
theorem c_X5_addPlayer {l : Launch} {D : va_G} {y : Nat → ClassId} {ad : Nat → Nat} {N : Nat} {σ τ : mSt} {a1 : Int32} {q : (Int32 ⊕ String) × mSt × mSt} (hstk : l.stackTraces = false) (h : f_X5_addPlayer N σ τ a1 = some q) : mCX l yX5_addPlayer wsX5_addPlayer { frames := 7, cells := mOc q.1, slots := mOs q.1, locals := 103 } D y 161 ad mZ (mB y ad σ τ) [.ref (ad 160), .int a1] (mOi q.1) (mB y ad q.2.1 q.2.2) (mOc q.1) (mOs q.1) := by
  refine m_startX (cc := cX5_addPlayer) (maxL := 3) (ret := (some .int)) (by decide) rfl (Nat.le_of_ble_eq_true rfl) (fun p e s m args below meth c ls hB hno V Z hl => ?_)
  obtain ⟨hx, hb, hml, hown, hts, hr, hlk⟩ := id hB
  have hl : lv_has ls 3 [(0, .ref (ad 160)), (1, .int a1)] := hl
  rw [f_X5_addPlayer] at h
  refine lv_iload_n hx hb dX5_addPlayer_0 rfl (lv_at hl 1 rfl) ?_
  refine lv_iconst (v := 0) hx hb dX5_addPlayer_1 (by decide) ?_
  refine lv_ldc (v := 1000000) hx hb hown (hts _ (List.mem_of_getElem? (i := 5) rfl)) dX5_addPlayer_2 ?_
  obtain ⟨q9, hq9, h⟩ := bd_s h
  refine kBBs (As := [.int a1, .int 0, .int 1000000]) (rest := []) ⟨hx, hb, hml, hown, hts⟩ Z V (c_X5_isOutside (l := l) (D := D) (y := y) (ad := ad) hstk hq9) (va_cwS 3 hts gX5_addPlayer_X5_isOutside rfl rfl rfl (by decide +kernel) ⟨Nat.le_of_ble_eq_true rfl, Nat.le_of_ble_eq_true rfl⟩) rfl hl.1 rfl (Nat.le_of_ble_eq_true rfl) ⟨Nat.zero_le _, Nat.zero_le _⟩ rfl dX5_addPlayer_4 (fun H locs V => ?_)
  refine lv_if_eq (tgt := 20) hx hb dX5_addPlayer_7 (by decide) (fun hc10 => ?_) (fun hc10 => ?_)
  · replace h := ite_t hc10 h
    refine lv_aload_n hx hb dX5_addPlayer_20 rfl (lv_at hl 0 rfl) ?_
    refine rB_now hx hb hts hown (fun _ h => List.mem_cons_of_mem _ (List.mem_append_left _ (List.mem_append_left _ (List.mem_append_left _ (List.mem_append_left _ (List.mem_append_left _ (List.mem_append_right _ h))))))) V (hts _ (List.mem_of_getElem? (i := 6) rfl)) dX5_addPlayer_21 ?_
    refine gB_T hx hb hts hown (fun _ h => List.mem_cons_of_mem _ (List.mem_append_left _ (List.mem_append_left _ (List.mem_append_left _ (List.mem_append_left _ (List.mem_append_right _ h)))))) V 0 21 (by decide) rfl (hts _ (List.mem_of_getElem? (i := 7) rfl)) dX5_addPlayer_24 ?_
    refine lv_aload_n hx hb dX5_addPlayer_27 rfl (lv_at hl 0 rfl) ?_
    refine rB_now hx hb hts hown (fun _ h => List.mem_cons_of_mem _ (List.mem_append_left _ (List.mem_append_left _ (List.mem_append_left _ (List.mem_append_left _ (List.mem_append_left _ (List.mem_append_right _ h))))))) V (hts _ (List.mem_of_getElem? (i := 6) rfl)) dX5_addPlayer_28 ?_
    refine rB_P hx hb hts hown (fun _ h => List.mem_cons_of_mem _ (List.mem_append_left _ (List.mem_append_left _ (List.mem_append_left _ (List.mem_append_left _ (List.mem_append_right _ h)))))) V (hts _ (List.mem_of_getElem? (i := 8) rfl)) dX5_addPlayer_31 ?_
    refine nB_P hx hb V dX5_addPlayer_34 ?_
    refine lv_icmp_lt (tgt := 48) hx hb dX5_addPlayer_35 (by decide) (fun hc11 => ?_) (fun hc11 => ?_)
    · replace h := ite_t hc11 h
      refine lv_aload_n hx hb dX5_addPlayer_48 rfl (lv_at hl 0 rfl) ?_
      refine rB_now hx hb hts hown (fun _ h => List.mem_cons_of_mem _ (List.mem_append_left _ (List.mem_append_left _ (List.mem_append_left _ (List.mem_append_left _ (List.mem_append_left _ (List.mem_append_right _ h))))))) V (hts _ (List.mem_of_getElem? (i := 6) rfl)) dX5_addPlayer_49 ?_
      refine gB_T hx hb hts hown (fun _ h => List.mem_cons_of_mem _ (List.mem_append_left _ (List.mem_append_left _ (List.mem_append_left _ (List.mem_append_left _ (List.mem_append_right _ h)))))) V 0 21 (by decide) rfl (hts _ (List.mem_of_getElem? (i := 7) rfl)) dX5_addPlayer_52 ?_
      refine lv_istore_n (lv' := [(2, .int (q9.2.1 21 0)), (0, .ref (ad 160)), (1, .int a1)]) hx hb dX5_addPlayer_55 rfl hl (by decide) rfl (fun ls hl => ?_)
      refine lv_aload_n hx hb dX5_addPlayer_56 rfl (lv_at hl 1 rfl) ?_
      refine rB_now hx hb hts hown (fun _ h => List.mem_cons_of_mem _ (List.mem_append_left _ (List.mem_append_left _ (List.mem_append_left _ (List.mem_append_left _ (List.mem_append_left _ (List.mem_append_right _ h))))))) V (hts _ (List.mem_of_getElem? (i := 6) rfl)) dX5_addPlayer_57 ?_
      refine lv_dup hx hb dX5_addPlayer_60 rfl ?_
      refine gB_T hx hb hts hown (fun _ h => List.mem_cons_of_mem _ (List.mem_append_left _ (List.mem_append_left _ (List.mem_append_left _ (List.mem_append_left _ (List.mem_append_right _ h)))))) V 0 21 (by decide) rfl (hts _ (List.mem_of_getElem? (i := 7) rfl)) dX5_addPlayer_61 ?_
      refine lv_iconst (v := 1) hx hb dX5_addPlayer_64 (by decide) ?_
      refine lv_iadd hx hb dX5_addPlayer_65 ?_
      refine pB_T hx hb hts hown (fun _ h => List.mem_cons_of_mem _ (List.mem_append_left _ (List.mem_append_left _ (List.mem_append_left _ (List.mem_append_left _ (List.mem_append_right _ h)))))) V 0 21 (by decide) rfl (hts _ (List.mem_of_getElem? (i := 7) rfl)) dX5_addPlayer_66 (fun H locs V => ?_)
      refine lv_aload_n hx hb dX5_addPlayer_69 rfl (lv_at hl 1 rfl) ?_
      refine rB_now hx hb hts hown (fun _ h => List.mem_cons_of_mem _ (List.mem_append_left _ (List.mem_append_left _ (List.mem_append_left _ (List.mem_append_left _ (List.mem_append_left _ (List.mem_append_right _ h))))))) V (hts _ (List.mem_of_getElem? (i := 6) rfl)) dX5_addPlayer_70 ?_
      refine lv_iload_n hx hb dX5_addPlayer_73 rfl (lv_at hl 0 rfl) ?_
      obtain ⟨q12, hq12, h⟩ := bd_s h
      cases ho15 : q12.1 with
      | inl r13 =>
        replace h := oCase_l ho15 h
        obtain ⟨hg16, h⟩ := gd_s h
        refine kBS (As := [.int (q9.2.1 21 0)]) (rest := []) ⟨hx, hb, hml, hown, hts⟩ Z V (mOr_plain ho15 (c_X4_playerAt (l := l) (D := D) (y := y) (ad := ad) hstk hq12)) (cwV 1 hts gX5_addPlayer_X4_playerAt rfl rfl rfl (by decide +kernel) ⟨Nat.le_of_ble_eq_true rfl, Nat.le_of_ble_eq_true rfl⟩) (by omega) ((mB_0 y ad _ _ (by omega)).trans (mS_T y ad _)) rfl rfl hl.1 rfl (Nat.le_of_ble_eq_true rfl) ⟨Nat.zero_le _, Nat.zero_le _⟩ rfl dX5_addPlayer_74 (fun H locs V => ?_)
        refine lv_iload_n hx hb dX5_addPlayer_77 rfl (lv_at hl 2 rfl) ?_
        refine pB_P hx hb hts hown (fun _ h => List.mem_cons_of_mem _ (List.mem_append_left _ (List.mem_append_left _ (List.mem_append_left _ (List.mem_append_right _ h))))) V hg16 0 0 (by decide) rfl (hts _ (List.mem_of_getElem? (i := 9) rfl)) dX5_addPlayer_78 (fun H locs V => ?_)
        refine lv_iload_n hx hb dX5_addPlayer_81 rfl (lv_at hl 0 rfl) ?_
        obtain rfl := Option.some.inj h
        exact m_iretX hx hb hr hlk V (Nat.zero_le _) (Nat.zero_le _) rfl dX5_addPlayer_82
      | inr e14 =>
        replace h := oCase_r ho15 h
        obtain rfl := Option.some.inj h
        refine kBSx (As := [.int (q9.2.1 21 0)]) (rest := []) ⟨hx, hb, hml, hown, hts⟩ Z V (mOr_throw ho15 (c_X4_playerAt (l := l) (D := D) (y := y) (ad := ad) hstk hq12)) (cwV 1 hts gX5_addPlayer_X4_playerAt rfl rfl rfl (by decide +kernel) ⟨Nat.le_of_ble_eq_true rfl, Nat.le_of_ble_eq_true rfl⟩) (by omega) ((mB_0 y ad _ _ (by omega)).trans (mS_T y ad _)) rfl rfl hl.1 rfl (Nat.le_of_ble_eq_true rfl) ⟨Nat.le_refl _, Nat.le_refl _⟩ dX5_addPlayer_74 (fun ce q9 H locs V hce hcv hcl => ?_)
        exact m_out hlk hno V rfl hce hcv hcl (Nat.le_refl _) (Nat.le_refl _)
    · replace h := ite_f hc11 h
      obtain rfl := Option.some.inj h
      exact m_throw (text := "there are 8 players") hstk hx hb hown hlk hno Z V (by decide +kernel) (hts _ (List.mem_of_getElem? (i := 3) rfl)) (hts _ (List.mem_of_getElem? (i := 4) rfl)) (List.mem_of_getElem? (i := 1) rfl) (fun w h => hts w ((fun _ h => List.mem_cons_of_mem _ (List.mem_append_left _ (List.mem_append_right _ h))) w h)) (mB_RX5_43) (mG_RX5_39_43) (hl.1.trans hml.symm) dX5_addPlayer_38 dX5_addPlayer_41 dX5_addPlayer_42 dX5_addPlayer_44 dX5_addPlayer_47 (Nat.le_of_ble_eq_true rfl) (Nat.le_of_ble_eq_true rfl) (Nat.le_refl _) (Nat.le_refl _) (Nat.le_refl _) (Nat.le_refl _) rfl
  · replace h := ite_f hc10 h
    obtain rfl := Option.some.inj h
    exact m_throw (text := "coins is not 0 to 1000000") hstk hx hb hown hlk hno Z V (by decide +kernel) (hts _ (List.mem_of_getElem? (i := 1) rfl)) (hts _ (List.mem_of_getElem? (i := 2) rfl)) (List.mem_of_getElem? (i := 0) rfl) (fun w h => hts w ((fun _ h => List.mem_cons_of_mem _ (List.mem_append_left _ (List.mem_append_left _ (List.mem_append_right _ h)))) w h)) (mB_RX5_28) (mG_RX5_24_28) (hl.1.trans hml.symm) dX5_addPlayer_10 dX5_addPlayer_13 dX5_addPlayer_14 dX5_addPlayer_16 dX5_addPlayer_19 (Nat.le_of_ble_eq_true rfl) (Nat.le_of_ble_eq_true rfl) (Nat.le_refl _) (Nat.le_refl _) (Nat.le_refl _) (Nat.le_refl _) rfl
-- X5_player
def f_X5_player (N : Nat) (σ τ : mSt) (a1 : Int32) (a2 : Int32) : Option ((Int32 ⊕ String) × mSt × mSt) := (f_X4_playerAt N σ a1).bind fun q18 => oCase q18.1 (fun r19 => if r19 < 8 then if a2.toInt < 0 ∨ 7 < a2.toInt then some (.inr "java/lang/IndexOutOfBoundsException", q18.2, τ) else if a2 = 0 then some (.inl (q18.2 0 r19), q18.2, τ) else if a2 = 1 then some (.inl (q18.2 1 r19), q18.2, τ) else if a2 = 2 then (f_X4_gamesRunningOf N q18.2 a1).bind fun q31 => some (.inl q31.1, q31.2, τ) else if a2 = 3 then some (.inl (q18.2 2 r19), q18.2, τ) else if a2 = 4 then some (.inl (q18.2 3 r19), q18.2, τ) else if a2 = 5 then (f_X4_owedBy N q18.2 a1).bind fun q27 => some (.inl q27.1, q27.2, τ) else if a2 = 6 then (f_X4_loansOf N q18.2 a1 2).bind fun q25 => some (.inl q25.1, q25.2, τ) else if a2 = 7 then some (.inl (q18.2 4 r19), q18.2, τ) else none else none) (fun e20 => some (.inr e20, q18.2, τ))
set_option maxHeartbeats 4000000 in
set_option maxRecDepth 100000 in
theorem c_X5_player {l : Launch} {D : va_G} {y : Nat → ClassId} {ad : Nat → Nat} {N : Nat} {σ τ : mSt} {a1 : Int32} {a2 : Int32} {q : (Int32 ⊕ String) × mSt × mSt} (hstk : l.stackTraces = false) (h : f_X5_player N σ τ a1 a2 = some q) : mCX l yX5_player wsX5_player { frames := 7, cells := mOc q.1, slots := mOs q.1, locals := 103 } D y 161 ad mZ (mB y ad σ τ) [.ref (ad 160), .int a1, .int a2] (mOi q.1) (mB y ad q.2.1 q.2.2) (mOc q.1) (mOs q.1) := by
  refine m_startX (cc := cX5_player) (maxL := 4) (ret := (some .int)) (by decide) rfl (Nat.le_of_ble_eq_true rfl) (fun p e s m args below meth c ls hB hno V Z hl => ?_)
  obtain ⟨hx, hb, hml, hown, hts, hr, hlk⟩ := id hB
  have hl : lv_has ls 4 [(0, .ref (ad 160)), (1, .int a1), (2, .int a2)] := hl
  rw [f_X5_player] at h
  refine lv_aload_n hx hb dX5_player_0 rfl (lv_at hl 0 rfl) ?_
  refine rB_now hx hb hts hown (fun _ h => List.mem_cons_of_mem _ (List.mem_append_left _ (List.mem_append_left _ (List.mem_append_left _ (List.mem_append_left _ (List.mem_append_left _ (List.mem_append_left _ (List.mem_append_left _ (List.mem_append_right _ h))))))))) V (hts _ (List.mem_of_getElem? (i := 3) rfl)) dX5_player_1 ?_
  refine lv_iload_n hx hb dX5_player_4 rfl (lv_at hl 1 rfl) ?_
  obtain ⟨q18, hq18, h⟩ := bd_s h
  cases ho21 : q18.1 with
  | inl r19 =>
    replace h := oCase_l ho21 h
    obtain ⟨hg22, h⟩ := gd_s h
    refine kBS (As := [.int a1]) (rest := []) ⟨hx, hb, hml, hown, hts⟩ Z V (mOr_plain ho21 (c_X4_playerAt (l := l) (D := D) (y := y) (ad := ad) hstk hq18)) (cwV 1 hts gX5_player_X4_playerAt rfl rfl rfl (by decide +kernel) ⟨Nat.le_of_ble_eq_true rfl, Nat.le_of_ble_eq_true rfl⟩) (by omega) ((mB_0 y ad _ _ (by omega)).trans (mS_T y ad _)) rfl rfl hl.1 rfl (Nat.le_of_ble_eq_true rfl) ⟨Nat.zero_le _, Nat.zero_le _⟩ rfl dX5_player_5 (fun H locs V => ?_)
    refine lv_astore_n (lv' := [(3, .ref (ad (4 + r19))), (0, .ref (ad 160)), (1, .int a1), (2, .int a2)]) hx hb dX5_player_8 rfl hl (by decide) rfl (fun ls hl => ?_)
    refine lv_iload_n hx hb dX5_player_9 rfl (lv_at hl 3 rfl) ?_
    by_cases hd23 : a2.toInt < 0 ∨ 7 < a2.toInt
    · replace h := ite_t hd23 h
      refine lv_tableOut (tgt := 109) hx hb dX5_player_10 hd23 (by decide) ?_
      obtain rfl := Option.some.inj h
      exact m_throw (text := "what is not 0 to 7") hstk hx hb hown hlk hno Z V (by decide +kernel) (hts _ (List.mem_of_getElem? (i := 1) rfl)) (hts _ (List.mem_of_getElem? (i := 2) rfl)) (List.mem_of_getElem? (i := 2) rfl) (fun w h => hts w ((fun _ h => List.mem_cons_of_mem _ (List.mem_append_left _ (List.mem_append_right _ h))) w h)) (mB_RX5_82) (mG_RX5_78_82) (hl.1.trans hml.symm) dX5_player_109 dX5_player_112 dX5_player_113 dX5_player_115 dX5_player_118 (Nat.le_of_ble_eq_true rfl) (Nat.le_of_ble_eq_true rfl) (Nat.le_refl _) (Nat.le_refl _) (Nat.le_refl _) (Nat.le_refl _) rfl
    · replace h := ite_f hd23 h
      by_cases hk34 : a2 = 0
      · replace h := ite_t hk34 h
        refine lv_tableIn (tgt := 56) hx hb dX5_player_10 (fun q => hd23 (Or.inl q)) (fun q => hd23 (Or.inr q)) (by rw [hk34]; rfl) (by decide) ?_
        refine lv_aload_n hx hb dX5_player_56 rfl (lv_at hl 0 rfl) ?_
        refine gB_P hx hb hts hown (fun _ h => List.mem_cons_of_mem _ (List.mem_append_left _ (List.mem_append_left _ (List.mem_append_left _ (List.mem_append_left _ (List.mem_append_left _ (List.mem_append_left _ (List.mem_append_right _ h)))))))) V hg22 0 0 (by decide) rfl (hts _ (List.mem_of_getElem? (i := 4) rfl)) dX5_player_57 ?_
        obtain rfl := Option.some.inj h
        exact m_iretX hx hb hr hlk V (Nat.zero_le _) (Nat.zero_le _) rfl dX5_player_60
      · replace h := ite_f hk34 h
        by_cases hk33 : a2 = 1
        · replace h := ite_t hk33 h
          refine lv_tableIn (tgt := 61) hx hb dX5_player_10 (fun q => hd23 (Or.inl q)) (fun q => hd23 (Or.inr q)) (by rw [hk33]; rfl) (by decide) ?_
          refine lv_aload_n hx hb dX5_player_61 rfl (lv_at hl 0 rfl) ?_
          refine gB_P hx hb hts hown (fun _ h => List.mem_cons_of_mem _ (List.mem_append_left _ (List.mem_append_left _ (List.mem_append_left _ (List.mem_append_left _ (List.mem_append_left _ (List.mem_append_left _ (List.mem_append_right _ h)))))))) V hg22 1 1 (by decide) rfl (hts _ (List.mem_of_getElem? (i := 5) rfl)) dX5_player_62 ?_
          obtain rfl := Option.some.inj h
          exact m_iretX hx hb hr hlk V (Nat.zero_le _) (Nat.zero_le _) rfl dX5_player_65
        · replace h := ite_f hk33 h
          by_cases hk32 : a2 = 2
          · replace h := ite_t hk32 h
            refine lv_tableIn (tgt := 66) hx hb dX5_player_10 (fun q => hd23 (Or.inl q)) (fun q => hd23 (Or.inr q)) (by rw [hk32]; rfl) (by decide) ?_
            refine lv_aload_n hx hb dX5_player_66 rfl (lv_at hl 1 rfl) ?_
            refine rB_now hx hb hts hown (fun _ h => List.mem_cons_of_mem _ (List.mem_append_left _ (List.mem_append_left _ (List.mem_append_left _ (List.mem_append_left _ (List.mem_append_left _ (List.mem_append_left _ (List.mem_append_left _ (List.mem_append_right _ h))))))))) V (hts _ (List.mem_of_getElem? (i := 3) rfl)) dX5_player_67 ?_
            refine lv_iload_n hx hb dX5_player_70 rfl (lv_at hl 2 rfl) ?_
            obtain ⟨q31, hq31, h⟩ := bd_s h
            refine kBS (As := [.int a1]) (rest := []) ⟨hx, hb, hml, hown, hts⟩ Z V (c_X4_gamesRunningOf (l := l) (D := D) (y := y) (ad := ad) hstk hq31) (cwV 1 hts gX5_player_X4_gamesRunningOf rfl rfl rfl (by decide +kernel) ⟨Nat.le_of_ble_eq_true rfl, Nat.le_of_ble_eq_true rfl⟩) (by omega) ((mB_0 y ad _ _ (by omega)).trans (mS_T y ad _)) rfl rfl hl.1 rfl (Nat.le_of_ble_eq_true rfl) ⟨Nat.zero_le _, Nat.zero_le _⟩ rfl dX5_player_71 (fun H locs V => ?_)
            obtain rfl := Option.some.inj h
            exact m_iretX hx hb hr hlk V (Nat.zero_le _) (Nat.zero_le _) rfl dX5_player_74
          · replace h := ite_f hk32 h
            by_cases hk30 : a2 = 3
            · replace h := ite_t hk30 h
              refine lv_tableIn (tgt := 75) hx hb dX5_player_10 (fun q => hd23 (Or.inl q)) (fun q => hd23 (Or.inr q)) (by rw [hk30]; rfl) (by decide) ?_
              refine lv_aload_n hx hb dX5_player_75 rfl (lv_at hl 0 rfl) ?_
              refine gB_P hx hb hts hown (fun _ h => List.mem_cons_of_mem _ (List.mem_append_left _ (List.mem_append_left _ (List.mem_append_left _ (List.mem_append_left _ (List.mem_append_left _ (List.mem_append_left _ (List.mem_append_right _ h)))))))) V hg22 2 2 (by decide) rfl (hts _ (List.mem_of_getElem? (i := 6) rfl)) dX5_player_76 ?_
              obtain rfl := Option.some.inj h
              exact m_iretX hx hb hr hlk V (Nat.zero_le _) (Nat.zero_le _) rfl dX5_player_79
            · replace h := ite_f hk30 h
              by_cases hk29 : a2 = 4
              · replace h := ite_t hk29 h
                refine lv_tableIn (tgt := 80) hx hb dX5_player_10 (fun q => hd23 (Or.inl q)) (fun q => hd23 (Or.inr q)) (by rw [hk29]; rfl) (by decide) ?_
                refine lv_aload_n hx hb dX5_player_80 rfl (lv_at hl 0 rfl) ?_
                refine gB_P hx hb hts hown (fun _ h => List.mem_cons_of_mem _ (List.mem_append_left _ (List.mem_append_left _ (List.mem_append_left _ (List.mem_append_left _ (List.mem_append_left _ (List.mem_append_left _ (List.mem_append_right _ h)))))))) V hg22 3 3 (by decide) rfl (hts _ (List.mem_of_getElem? (i := 7) rfl)) dX5_player_81 ?_
                obtain rfl := Option.some.inj h
                exact m_iretX hx hb hr hlk V (Nat.zero_le _) (Nat.zero_le _) rfl dX5_player_84
              · replace h := ite_f hk29 h
                by_cases hk28 : a2 = 5
                · replace h := ite_t hk28 h
                  refine lv_tableIn (tgt := 85) hx hb dX5_player_10 (fun q => hd23 (Or.inl q)) (fun q => hd23 (Or.inr q)) (by rw [hk28]; rfl) (by decide) ?_
                  refine lv_aload_n hx hb dX5_player_85 rfl (lv_at hl 1 rfl) ?_
                  refine rB_now hx hb hts hown (fun _ h => List.mem_cons_of_mem _ (List.mem_append_left _ (List.mem_append_left _ (List.mem_append_left _ (List.mem_append_left _ (List.mem_append_left _ (List.mem_append_left _ (List.mem_append_left _ (List.mem_append_right _ h))))))))) V (hts _ (List.mem_of_getElem? (i := 3) rfl)) dX5_player_86 ?_
                  refine lv_iload_n hx hb dX5_player_89 rfl (lv_at hl 2 rfl) ?_
                  obtain ⟨q27, hq27, h⟩ := bd_s h
                  refine kBS (As := [.int a1]) (rest := []) ⟨hx, hb, hml, hown, hts⟩ Z V (c_X4_owedBy (l := l) (D := D) (y := y) (ad := ad) hstk hq27) (cwV 1 hts gX5_player_X4_owedBy rfl rfl rfl (by decide +kernel) ⟨Nat.le_of_ble_eq_true rfl, Nat.le_of_ble_eq_true rfl⟩) (by omega) ((mB_0 y ad _ _ (by omega)).trans (mS_T y ad _)) rfl rfl hl.1 rfl (Nat.le_of_ble_eq_true rfl) ⟨Nat.zero_le _, Nat.zero_le _⟩ rfl dX5_player_90 (fun H locs V => ?_)
                  obtain rfl := Option.some.inj h
                  exact m_iretX hx hb hr hlk V (Nat.zero_le _) (Nat.zero_le _) rfl dX5_player_93
                · replace h := ite_f hk28 h
                  by_cases hk26 : a2 = 6
                  · replace h := ite_t hk26 h
                    refine lv_tableIn (tgt := 94) hx hb dX5_player_10 (fun q => hd23 (Or.inl q)) (fun q => hd23 (Or.inr q)) (by rw [hk26]; rfl) (by decide) ?_
                    refine lv_aload_n hx hb dX5_player_94 rfl (lv_at hl 1 rfl) ?_
                    refine rB_now hx hb hts hown (fun _ h => List.mem_cons_of_mem _ (List.mem_append_left _ (List.mem_append_left _ (List.mem_append_left _ (List.mem_append_left _ (List.mem_append_left _ (List.mem_append_left _ (List.mem_append_left _ (List.mem_append_right _ h))))))))) V (hts _ (List.mem_of_getElem? (i := 3) rfl)) dX5_player_95 ?_
                    refine lv_iload_n hx hb dX5_player_98 rfl (lv_at hl 2 rfl) ?_
                    refine lv_iconst (v := 2) hx hb dX5_player_99 (by decide) ?_
                    obtain ⟨q25, hq25, h⟩ := bd_s h
                    refine kBS (As := [.int a1, .int 2]) (rest := []) ⟨hx, hb, hml, hown, hts⟩ Z V (c_X4_loansOf (l := l) (D := D) (y := y) (ad := ad) hstk hq25) (cwV 2 hts gX5_player_X4_loansOf rfl rfl rfl (by decide +kernel) ⟨Nat.le_of_ble_eq_true rfl, Nat.le_of_ble_eq_true rfl⟩) (by omega) ((mB_0 y ad _ _ (by omega)).trans (mS_T y ad _)) rfl rfl hl.1 rfl (Nat.le_of_ble_eq_true rfl) ⟨Nat.zero_le _, Nat.zero_le _⟩ rfl dX5_player_100 (fun H locs V => ?_)
                    obtain rfl := Option.some.inj h
                    exact m_iretX hx hb hr hlk V (Nat.zero_le _) (Nat.zero_le _) rfl dX5_player_103
                  · replace h := ite_f hk26 h
                    by_cases hk24 : a2 = 7
                    · replace h := ite_t hk24 h
                      refine lv_tableIn (tgt := 104) hx hb dX5_player_10 (fun q => hd23 (Or.inl q)) (fun q => hd23 (Or.inr q)) (by rw [hk24]; rfl) (by decide) ?_
                      refine lv_aload_n hx hb dX5_player_104 rfl (lv_at hl 0 rfl) ?_
                      refine gB_P hx hb hts hown (fun _ h => List.mem_cons_of_mem _ (List.mem_append_left _ (List.mem_append_left _ (List.mem_append_left _ (List.mem_append_left _ (List.mem_append_left _ (List.mem_append_left _ (List.mem_append_right _ h)))))))) V hg22 4 4 (by decide) rfl (hts _ (List.mem_of_getElem? (i := 8) rfl)) dX5_player_105 ?_
                      obtain rfl := Option.some.inj h
                      exact m_iretX hx hb hr hlk V (Nat.zero_le _) (Nat.zero_le _) rfl dX5_player_108
                    · replace h := ite_f hk24 h
                      exact nomatch h
  | inr e20 =>
    replace h := oCase_r ho21 h
    obtain rfl := Option.some.inj h
    refine kBSx (As := [.int a1]) (rest := []) ⟨hx, hb, hml, hown, hts⟩ Z V (mOr_throw ho21 (c_X4_playerAt (l := l) (D := D) (y := y) (ad := ad) hstk hq18)) (cwV 1 hts gX5_player_X4_playerAt rfl rfl rfl (by decide +kernel) ⟨Nat.le_of_ble_eq_true rfl, Nat.le_of_ble_eq_true rfl⟩) (by omega) ((mB_0 y ad _ _ (by omega)).trans (mS_T y ad _)) rfl rfl hl.1 rfl (Nat.le_of_ble_eq_true rfl) ⟨Nat.le_refl _, Nat.le_refl _⟩ dX5_player_5 (fun ce q9 H locs V hce hcv hcl => ?_)
    exact m_out hlk hno V rfl hce hcv hcl (Nat.le_refl _) (Nat.le_refl _)
-- X5_buy
def f_X5_buy (N : Nat) (σ τ : mSt) (a1 : Int32) (a2 : Int32) : Option ((Int32 ⊕ String) × mSt × mSt) := (f_X4_playerAt N σ a1).bind fun q12 => oCase q12.1 (fun r13 => if r13 < 8 then (f_X5_isOutside N q12.2 τ a2 1 10000).bind fun q17 => if q17.1 = 0 then (f_X4_currentPrice N q17.2.1).bind fun q19 => if a2 ≤ (q19.2 25 0) then if (((a2 * q19.1) / 10) + 1) ≤ (q19.2 0 r13) then (f_X4_handOut N q19.2 r13 a2).bind fun q22 => some (.inl (((a2 * q19.1) / 10) + 1), (mUp (mUp q22.2 0 r13 ((q22.2 0 r13) - (((a2 * q19.1) / 10) + 1))) 26 0 (((mUp q22.2 0 r13 ((q22.2 0 r13) - (((a2 * q19.1) / 10) + 1))) 26 0) + (((a2 * q19.1) / 10) + 1))), q17.2.2) else some (.inr "java/lang/IllegalStateException", q19.2, q17.2.2) else some (.inr "java/lang/IllegalStateException", q19.2, q17.2.2) else some (.inr "java/lang/IllegalArgumentException", q17.2.1, q17.2.2) else none) (fun e14 => some (.inr e14, q12.2, τ))
set_option maxHeartbeats 4000000 in
set_option maxRecDepth 100000 in
theorem c_X5_buy {l : Launch} {D : va_G} {y : Nat → ClassId} {ad : Nat → Nat} {N : Nat} {σ τ : mSt} {a1 : Int32} {a2 : Int32} {q : (Int32 ⊕ String) × mSt × mSt} (hstk : l.stackTraces = false) (h : f_X5_buy N σ τ a1 a2 = some q) : mCX l yX5_buy wsX5_buy { frames := 7, cells := mOc q.1, slots := mOs q.1, locals := 103 } D y 161 ad mZ (mB y ad σ τ) [.ref (ad 160), .int a1, .int a2] (mOi q.1) (mB y ad q.2.1 q.2.2) (mOc q.1) (mOs q.1) := by
  refine m_startX (cc := cX5_buy) (maxL := 5) (ret := (some .int)) (by decide) rfl (Nat.le_of_ble_eq_true rfl) (fun p e s m args below meth c ls hB hno V Z hl => ?_)
  obtain ⟨hx, hb, hml, hown, hts, hr, hlk⟩ := id hB
  have hl : lv_has ls 5 [(0, .ref (ad 160)), (1, .int a1), (2, .int a2)] := hl
  rw [f_X5_buy] at h
  refine lv_aload_n hx hb dX5_buy_0 rfl (lv_at hl 0 rfl) ?_
  refine rB_now hx hb hts hown (fun _ h => List.mem_cons_of_mem _ (List.mem_append_left _ (List.mem_append_left _ (List.mem_append_left _ (List.mem_append_left _ (List.mem_append_left _ (List.mem_append_right _ h))))))) V (hts _ (List.mem_of_getElem? (i := 5) rfl)) dX5_buy_1 ?_
  refine lv_iload_n hx hb dX5_buy_4 rfl (lv_at hl 1 rfl) ?_
  obtain ⟨q12, hq12, h⟩ := bd_s h
  cases ho15 : q12.1 with
  | inl r13 =>
    replace h := oCase_l ho15 h
    obtain ⟨hg16, h⟩ := gd_s h
    refine kBS (As := [.int a1]) (rest := []) ⟨hx, hb, hml, hown, hts⟩ Z V (mOr_plain ho15 (c_X4_playerAt (l := l) (D := D) (y := y) (ad := ad) hstk hq12)) (cwV 1 hts gX5_buy_X4_playerAt rfl rfl rfl (by decide +kernel) ⟨Nat.le_of_ble_eq_true rfl, Nat.le_of_ble_eq_true rfl⟩) (by omega) ((mB_0 y ad _ _ (by omega)).trans (mS_T y ad _)) rfl rfl hl.1 rfl (Nat.le_of_ble_eq_true rfl) ⟨Nat.zero_le _, Nat.zero_le _⟩ rfl dX5_buy_5 (fun H locs V => ?_)
    refine lv_astore_n (lv' := [(3, .ref (ad (4 + r13))), (0, .ref (ad 160)), (1, .int a1), (2, .int a2)]) hx hb dX5_buy_8 rfl hl (by decide) rfl (fun ls hl => ?_)
    refine lv_iload_n hx hb dX5_buy_9 rfl (lv_at hl 3 rfl) ?_
    refine lv_iconst (v := 1) hx hb dX5_buy_10 (by decide) ?_
    refine lv_sipush (v := 10000) hx hb dX5_buy_11 (by decide) ?_
    obtain ⟨q17, hq17, h⟩ := bd_s h
    refine kBBs (As := [.int a2, .int 1, .int 10000]) (rest := []) ⟨hx, hb, hml, hown, hts⟩ Z V (c_X5_isOutside (l := l) (D := D) (y := y) (ad := ad) hstk hq17) (va_cwS 3 hts gX5_buy_X5_isOutside rfl rfl rfl (by decide +kernel) ⟨Nat.le_of_ble_eq_true rfl, Nat.le_of_ble_eq_true rfl⟩) rfl hl.1 rfl (Nat.le_of_ble_eq_true rfl) ⟨Nat.zero_le _, Nat.zero_le _⟩ rfl dX5_buy_14 (fun H locs V => ?_)
    refine lv_if_eq (tgt := 30) hx hb dX5_buy_17 (by decide) (fun hc18 => ?_) (fun hc18 => ?_)
    · replace h := ite_t hc18 h
      refine lv_iload_n hx hb dX5_buy_30 rfl (lv_at hl 3 rfl) ?_
      refine lv_aload_n hx hb dX5_buy_31 rfl (lv_at hl 1 rfl) ?_
      refine rB_now hx hb hts hown (fun _ h => List.mem_cons_of_mem _ (List.mem_append_left _ (List.mem_append_left _ (List.mem_append_left _ (List.mem_append_left _ (List.mem_append_left _ (List.mem_append_right _ h))))))) V (hts _ (List.mem_of_getElem? (i := 5) rfl)) dX5_buy_32 ?_
      obtain ⟨q19, hq19, h⟩ := bd_s h
      refine kBS (As := []) (rest := [.int a2]) ⟨hx, hb, hml, hown, hts⟩ Z V (c_X4_currentPrice (l := l) (D := D) (y := y) (ad := ad) hstk hq19) (cwV 0 hts gX5_buy_X4_currentPrice rfl rfl rfl (by decide +kernel) ⟨Nat.le_of_ble_eq_true rfl, Nat.le_of_ble_eq_true rfl⟩) (by omega) ((mB_0 y ad _ _ (by omega)).trans (mS_T y ad _)) rfl rfl hl.1 rfl (Nat.le_of_ble_eq_true rfl) ⟨Nat.zero_le _, Nat.zero_le _⟩ rfl dX5_buy_35 (fun H locs V => ?_)
      refine lv_imul hx hb dX5_buy_38 ?_
      refine lv_bipush (v := 10) hx hb dX5_buy_39 (by decide) ?_
      refine lv_idiv hx hb dX5_buy_41 (by decide) ?_
      refine lv_iconst (v := 1) hx hb dX5_buy_42 (by decide) ?_
      refine lv_iadd hx hb dX5_buy_43 ?_
      refine lv_istore (lv' := [(4, .int (((a2 * q19.1) / 10) + 1)), (3, .ref (ad (4 + r13))), (0, .ref (ad 160)), (1, .int a1), (2, .int a2)]) hx hb dX5_buy_44 hl (by decide) rfl (fun ls hl => ?_)
      refine lv_iload_n hx hb dX5_buy_46 rfl (lv_at hl 4 rfl) ?_
      refine lv_aload_n hx hb dX5_buy_47 rfl (lv_at hl 2 rfl) ?_
      refine rB_now hx hb hts hown (fun _ h => List.mem_cons_of_mem _ (List.mem_append_left _ (List.mem_append_left _ (List.mem_append_left _ (List.mem_append_left _ (List.mem_append_left _ (List.mem_append_right _ h))))))) V (hts _ (List.mem_of_getElem? (i := 5) rfl)) dX5_buy_48 ?_
      refine gB_T hx hb hts hown (fun _ h => List.mem_cons_of_mem _ (List.mem_append_left _ (List.mem_append_left _ (List.mem_append_left _ (List.mem_append_left _ (List.mem_append_right _ h)))))) V 4 25 (by decide) rfl (hts _ (List.mem_of_getElem? (i := 6) rfl)) dX5_buy_51 ?_
      refine lv_icmp_le (tgt := 67) hx hb dX5_buy_54 (by decide) (fun hc20 => ?_) (fun hc20 => ?_)
      · replace h := ite_t hc20 h
        refine lv_iload hx hb dX5_buy_67 (lv_at hl 0 rfl) ?_
        refine lv_aload_n hx hb dX5_buy_69 rfl (lv_at hl 1 rfl) ?_
        refine gB_P hx hb hts hown (fun _ h => List.mem_cons_of_mem _ (List.mem_append_left _ (List.mem_append_left _ (List.mem_append_left _ (List.mem_append_right _ h))))) V hg16 0 0 (by decide) rfl (hts _ (List.mem_of_getElem? (i := 7) rfl)) dX5_buy_70 ?_
        refine lv_icmp_le (tgt := 86) hx hb dX5_buy_73 (by decide) (fun hc21 => ?_) (fun hc21 => ?_)
        · replace h := ite_t hc21 h
          refine lv_aload_n hx hb dX5_buy_86 rfl (lv_at hl 2 rfl) ?_
          refine rB_now hx hb hts hown (fun _ h => List.mem_cons_of_mem _ (List.mem_append_left _ (List.mem_append_left _ (List.mem_append_left _ (List.mem_append_left _ (List.mem_append_left _ (List.mem_append_right _ h))))))) V (hts _ (List.mem_of_getElem? (i := 5) rfl)) dX5_buy_87 ?_
          refine lv_aload_n hx hb dX5_buy_90 rfl (lv_at hl 1 rfl) ?_
          refine lv_iload_n hx hb dX5_buy_91 rfl (lv_at hl 4 rfl) ?_
          obtain ⟨q22, hq22, h⟩ := bd_s h
          refine kBS (As := [.ref (ad (4 + r13)), .int a2]) (rest := []) ⟨hx, hb, hml, hown, hts⟩ Z V (c_X4_handOut (l := l) (D := D) (y := y) (ad := ad) hstk hq22) (cwV 2 hts gX5_buy_X4_handOut rfl rfl rfl (by decide +kernel) ⟨Nat.le_of_ble_eq_true rfl, Nat.le_of_ble_eq_true rfl⟩) (by omega) ((mB_0 y ad _ _ (by omega)).trans (mS_T y ad _)) rfl rfl hl.1 rfl (Nat.le_of_ble_eq_true rfl) ⟨Nat.zero_le _, Nat.zero_le _⟩ rfl dX5_buy_92 (fun H locs V => ?_)
          refine lv_aload_n hx hb dX5_buy_95 rfl (lv_at hl 1 rfl) ?_
          refine lv_dup hx hb dX5_buy_96 rfl ?_
          refine gB_P hx hb hts hown (fun _ h => List.mem_cons_of_mem _ (List.mem_append_left _ (List.mem_append_left _ (List.mem_append_left _ (List.mem_append_right _ h))))) V hg16 0 0 (by decide) rfl (hts _ (List.mem_of_getElem? (i := 7) rfl)) dX5_buy_97 ?_
          refine lv_iload hx hb dX5_buy_100 (lv_at hl 0 rfl) ?_
          refine lv_isub hx hb dX5_buy_102 ?_
          refine pB_P hx hb hts hown (fun _ h => List.mem_cons_of_mem _ (List.mem_append_left _ (List.mem_append_left _ (List.mem_append_left _ (List.mem_append_right _ h))))) V hg16 0 0 (by decide) rfl (hts _ (List.mem_of_getElem? (i := 7) rfl)) dX5_buy_103 (fun H locs V => ?_)
          refine lv_aload_n hx hb dX5_buy_106 rfl (lv_at hl 2 rfl) ?_
          refine rB_now hx hb hts hown (fun _ h => List.mem_cons_of_mem _ (List.mem_append_left _ (List.mem_append_left _ (List.mem_append_left _ (List.mem_append_left _ (List.mem_append_left _ (List.mem_append_right _ h))))))) V (hts _ (List.mem_of_getElem? (i := 5) rfl)) dX5_buy_107 ?_
          refine lv_dup hx hb dX5_buy_110 rfl ?_
          refine gB_T hx hb hts hown (fun _ h => List.mem_cons_of_mem _ (List.mem_append_left _ (List.mem_append_left _ (List.mem_append_left _ (List.mem_append_left _ (List.mem_append_right _ h)))))) V 5 26 (by decide) rfl (hts _ (List.mem_of_getElem? (i := 8) rfl)) dX5_buy_111 ?_
          refine lv_iload hx hb dX5_buy_114 (lv_at hl 0 rfl) ?_
          refine lv_iadd hx hb dX5_buy_116 ?_
          refine pB_T hx hb hts hown (fun _ h => List.mem_cons_of_mem _ (List.mem_append_left _ (List.mem_append_left _ (List.mem_append_left _ (List.mem_append_left _ (List.mem_append_right _ h)))))) V 5 26 (by decide) rfl (hts _ (List.mem_of_getElem? (i := 8) rfl)) dX5_buy_117 (fun H locs V => ?_)
          refine lv_iload hx hb dX5_buy_120 (lv_at hl 0 rfl) ?_
          obtain rfl := Option.some.inj h
          exact m_iretX hx hb hr hlk V (Nat.zero_le _) (Nat.zero_le _) rfl dX5_buy_122
        · replace h := ite_f hc21 h
          obtain rfl := Option.some.inj h
          exact m_throw (text := "the player does not have the coins") hstk hx hb hown hlk hno Z V (by decide +kernel) (hts _ (List.mem_of_getElem? (i := 3) rfl)) (hts _ (List.mem_of_getElem? (i := 4) rfl)) (List.mem_of_getElem? (i := 5) rfl) (fun w h => hts w ((fun _ h => List.mem_cons_of_mem _ (List.mem_append_left _ (List.mem_append_right _ h))) w h)) (mB_RX5_43) (mG_RX5_39_43) (hl.1.trans hml.symm) dX5_buy_76 dX5_buy_79 dX5_buy_80 dX5_buy_82 dX5_buy_85 (Nat.le_of_ble_eq_true rfl) (Nat.le_of_ble_eq_true rfl) (Nat.le_refl _) (Nat.le_refl _) (Nat.le_refl _) (Nat.le_refl _) rfl
      · replace h := ite_f hc20 h
        obtain rfl := Option.some.inj h
        exact m_throw (text := "the reserve does not hold so many") hstk hx hb hown hlk hno Z V (by decide +kernel) (hts _ (List.mem_of_getElem? (i := 3) rfl)) (hts _ (List.mem_of_getElem? (i := 4) rfl)) (List.mem_of_getElem? (i := 4) rfl) (fun w h => hts w ((fun _ h => List.mem_cons_of_mem _ (List.mem_append_left _ (List.mem_append_right _ h))) w h)) (mB_RX5_43) (mG_RX5_39_43) (hl.1.trans hml.symm) dX5_buy_57 dX5_buy_60 dX5_buy_61 dX5_buy_63 dX5_buy_66 (Nat.le_of_ble_eq_true rfl) (Nat.le_of_ble_eq_true rfl) (Nat.le_refl _) (Nat.le_refl _) (Nat.le_refl _) (Nat.le_refl _) rfl
    · replace h := ite_f hc18 h
      obtain rfl := Option.some.inj h
      exact m_throw (text := "n is not 1 to 10000") hstk hx hb hown hlk hno Z V (by decide +kernel) (hts _ (List.mem_of_getElem? (i := 1) rfl)) (hts _ (List.mem_of_getElem? (i := 2) rfl)) (List.mem_of_getElem? (i := 3) rfl) (fun w h => hts w ((fun _ h => List.mem_cons_of_mem _ (List.mem_append_left _ (List.mem_append_left _ (List.mem_append_right _ h)))) w h)) (mB_RX5_28) (mG_RX5_24_28) (hl.1.trans hml.symm) dX5_buy_20 dX5_buy_23 dX5_buy_24 dX5_buy_26 dX5_buy_29 (Nat.le_of_ble_eq_true rfl) (Nat.le_of_ble_eq_true rfl) (Nat.le_refl _) (Nat.le_refl _) (Nat.le_refl _) (Nat.le_refl _) rfl
  | inr e14 =>
    replace h := oCase_r ho15 h
    obtain rfl := Option.some.inj h
    refine kBSx (As := [.int a1]) (rest := []) ⟨hx, hb, hml, hown, hts⟩ Z V (mOr_throw ho15 (c_X4_playerAt (l := l) (D := D) (y := y) (ad := ad) hstk hq12)) (cwV 1 hts gX5_buy_X4_playerAt rfl rfl rfl (by decide +kernel) ⟨Nat.le_of_ble_eq_true rfl, Nat.le_of_ble_eq_true rfl⟩) (by omega) ((mB_0 y ad _ _ (by omega)).trans (mS_T y ad _)) rfl rfl hl.1 rfl (Nat.le_of_ble_eq_true rfl) ⟨Nat.le_refl _, Nat.le_refl _⟩ dX5_buy_5 (fun ce q9 H locs V hce hcv hcl => ?_)
    exact m_out hlk hno V rfl hce hcv hcl (Nat.le_refl _) (Nat.le_refl _)
-- X5_sell
def f_X5_sell (N : Nat) (σ τ : mSt) (a1 : Int32) (a2 : Int32) : Option ((Int32 ⊕ String) × mSt × mSt) := (f_X4_playerAt N σ a1).bind fun q11 => oCase q11.1 (fun r12 => if r12 < 8 then (f_X5_isOutside N q11.2 τ a2 1 10000).bind fun q16 => if q16.1 = 0 then (f_X4_currentPrice N q16.2.1).bind fun q18 => if a2 ≤ (q18.2 1 r12) then if ((a2 * q18.1) / 20) ≤ (q18.2 26 0) then some (.inl ((a2 * q18.1) / 20), (mUp (mUp (mUp (mUp q18.2 1 r12 ((q18.2 1 r12) - a2)) 25 0 (((mUp q18.2 1 r12 ((q18.2 1 r12) - a2)) 25 0) + a2)) 0 r12 (((mUp (mUp q18.2 1 r12 ((q18.2 1 r12) - a2)) 25 0 (((mUp q18.2 1 r12 ((q18.2 1 r12) - a2)) 25 0) + a2)) 0 r12) + ((a2 * q18.1) / 20))) 26 0 (((mUp (mUp (mUp q18.2 1 r12 ((q18.2 1 r12) - a2)) 25 0 (((mUp q18.2 1 r12 ((q18.2 1 r12) - a2)) 25 0) + a2)) 0 r12 (((mUp (mUp q18.2 1 r12 ((q18.2 1 r12) - a2)) 25 0 (((mUp q18.2 1 r12 ((q18.2 1 r12) - a2)) 25 0) + a2)) 0 r12) + ((a2 * q18.1) / 20))) 26 0) - ((a2 * q18.1) / 20))), q16.2.2) else some (.inr "java/lang/IllegalStateException", q18.2, q16.2.2) else some (.inr "java/lang/IllegalStateException", q18.2, q16.2.2) else some (.inr "java/lang/IllegalArgumentException", q16.2.1, q16.2.2) else none) (fun e13 => some (.inr e13, q11.2, τ))
set_option maxHeartbeats 4000000 in
set_option maxRecDepth 100000 in
theorem c_X5_sell {l : Launch} {D : va_G} {y : Nat → ClassId} {ad : Nat → Nat} {N : Nat} {σ τ : mSt} {a1 : Int32} {a2 : Int32} {q : (Int32 ⊕ String) × mSt × mSt} (hstk : l.stackTraces = false) (h : f_X5_sell N σ τ a1 a2 = some q) : mCX l yX5_sell wsX5_sell { frames := 7, cells := mOc q.1, slots := mOs q.1, locals := 103 } D y 161 ad mZ (mB y ad σ τ) [.ref (ad 160), .int a1, .int a2] (mOi q.1) (mB y ad q.2.1 q.2.2) (mOc q.1) (mOs q.1) := by
  refine m_startX (cc := cX5_sell) (maxL := 5) (ret := (some .int)) (by decide) rfl (Nat.le_of_ble_eq_true rfl) (fun p e s m args below meth c ls hB hno V Z hl => ?_)
  obtain ⟨hx, hb, hml, hown, hts, hr, hlk⟩ := id hB
  have hl : lv_has ls 5 [(0, .ref (ad 160)), (1, .int a1), (2, .int a2)] := hl
  rw [f_X5_sell] at h
  refine lv_aload_n hx hb dX5_sell_0 rfl (lv_at hl 0 rfl) ?_
  refine rB_now hx hb hts hown (fun _ h => List.mem_cons_of_mem _ (List.mem_append_left _ (List.mem_append_left _ (List.mem_append_left _ (List.mem_append_left _ (List.mem_append_left _ (List.mem_append_right _ h))))))) V (hts _ (List.mem_of_getElem? (i := 5) rfl)) dX5_sell_1 ?_
  refine lv_iload_n hx hb dX5_sell_4 rfl (lv_at hl 1 rfl) ?_
  obtain ⟨q11, hq11, h⟩ := bd_s h
  cases ho14 : q11.1 with
  | inl r12 =>
    replace h := oCase_l ho14 h
    obtain ⟨hg15, h⟩ := gd_s h
    refine kBS (As := [.int a1]) (rest := []) ⟨hx, hb, hml, hown, hts⟩ Z V (mOr_plain ho14 (c_X4_playerAt (l := l) (D := D) (y := y) (ad := ad) hstk hq11)) (cwV 1 hts gX5_sell_X4_playerAt rfl rfl rfl (by decide +kernel) ⟨Nat.le_of_ble_eq_true rfl, Nat.le_of_ble_eq_true rfl⟩) (by omega) ((mB_0 y ad _ _ (by omega)).trans (mS_T y ad _)) rfl rfl hl.1 rfl (Nat.le_of_ble_eq_true rfl) ⟨Nat.zero_le _, Nat.zero_le _⟩ rfl dX5_sell_5 (fun H locs V => ?_)
    refine lv_astore_n (lv' := [(3, .ref (ad (4 + r12))), (0, .ref (ad 160)), (1, .int a1), (2, .int a2)]) hx hb dX5_sell_8 rfl hl (by decide) rfl (fun ls hl => ?_)
    refine lv_iload_n hx hb dX5_sell_9 rfl (lv_at hl 3 rfl) ?_
    refine lv_iconst (v := 1) hx hb dX5_sell_10 (by decide) ?_
    refine lv_sipush (v := 10000) hx hb dX5_sell_11 (by decide) ?_
    obtain ⟨q16, hq16, h⟩ := bd_s h
    refine kBBs (As := [.int a2, .int 1, .int 10000]) (rest := []) ⟨hx, hb, hml, hown, hts⟩ Z V (c_X5_isOutside (l := l) (D := D) (y := y) (ad := ad) hstk hq16) (va_cwS 3 hts gX5_sell_X5_isOutside rfl rfl rfl (by decide +kernel) ⟨Nat.le_of_ble_eq_true rfl, Nat.le_of_ble_eq_true rfl⟩) rfl hl.1 rfl (Nat.le_of_ble_eq_true rfl) ⟨Nat.zero_le _, Nat.zero_le _⟩ rfl dX5_sell_14 (fun H locs V => ?_)
    refine lv_if_eq (tgt := 30) hx hb dX5_sell_17 (by decide) (fun hc17 => ?_) (fun hc17 => ?_)
    · replace h := ite_t hc17 h
      refine lv_iload_n hx hb dX5_sell_30 rfl (lv_at hl 3 rfl) ?_
      refine lv_aload_n hx hb dX5_sell_31 rfl (lv_at hl 1 rfl) ?_
      refine rB_now hx hb hts hown (fun _ h => List.mem_cons_of_mem _ (List.mem_append_left _ (List.mem_append_left _ (List.mem_append_left _ (List.mem_append_left _ (List.mem_append_left _ (List.mem_append_right _ h))))))) V (hts _ (List.mem_of_getElem? (i := 5) rfl)) dX5_sell_32 ?_
      obtain ⟨q18, hq18, h⟩ := bd_s h
      refine kBS (As := []) (rest := [.int a2]) ⟨hx, hb, hml, hown, hts⟩ Z V (c_X4_currentPrice (l := l) (D := D) (y := y) (ad := ad) hstk hq18) (cwV 0 hts gX5_sell_X4_currentPrice rfl rfl rfl (by decide +kernel) ⟨Nat.le_of_ble_eq_true rfl, Nat.le_of_ble_eq_true rfl⟩) (by omega) ((mB_0 y ad _ _ (by omega)).trans (mS_T y ad _)) rfl rfl hl.1 rfl (Nat.le_of_ble_eq_true rfl) ⟨Nat.zero_le _, Nat.zero_le _⟩ rfl dX5_sell_35 (fun H locs V => ?_)
      refine lv_imul hx hb dX5_sell_38 ?_
      refine lv_bipush (v := 20) hx hb dX5_sell_39 (by decide) ?_
      refine lv_idiv hx hb dX5_sell_41 (by decide) ?_
      refine lv_istore (lv' := [(4, .int ((a2 * q18.1) / 20)), (3, .ref (ad (4 + r12))), (0, .ref (ad 160)), (1, .int a1), (2, .int a2)]) hx hb dX5_sell_42 hl (by decide) rfl (fun ls hl => ?_)
      refine lv_iload_n hx hb dX5_sell_44 rfl (lv_at hl 4 rfl) ?_
      refine lv_aload_n hx hb dX5_sell_45 rfl (lv_at hl 1 rfl) ?_
      refine gB_P hx hb hts hown (fun _ h => List.mem_cons_of_mem _ (List.mem_append_left _ (List.mem_append_left _ (List.mem_append_left _ (List.mem_append_left _ (List.mem_append_right _ h)))))) V hg15 1 1 (by decide) rfl (hts _ (List.mem_of_getElem? (i := 6) rfl)) dX5_sell_46 ?_
      refine lv_icmp_le (tgt := 62) hx hb dX5_sell_49 (by decide) (fun hc19 => ?_) (fun hc19 => ?_)
      · replace h := ite_t hc19 h
        refine lv_iload hx hb dX5_sell_62 (lv_at hl 0 rfl) ?_
        refine lv_aload_n hx hb dX5_sell_64 rfl (lv_at hl 2 rfl) ?_
        refine rB_now hx hb hts hown (fun _ h => List.mem_cons_of_mem _ (List.mem_append_left _ (List.mem_append_left _ (List.mem_append_left _ (List.mem_append_left _ (List.mem_append_left _ (List.mem_append_right _ h))))))) V (hts _ (List.mem_of_getElem? (i := 5) rfl)) dX5_sell_65 ?_
        refine gB_T hx hb hts hown (fun _ h => List.mem_cons_of_mem _ (List.mem_append_left _ (List.mem_append_left _ (List.mem_append_left _ (List.mem_append_right _ h))))) V 5 26 (by decide) rfl (hts _ (List.mem_of_getElem? (i := 7) rfl)) dX5_sell_68 ?_
        refine lv_icmp_le (tgt := 84) hx hb dX5_sell_71 (by decide) (fun hc20 => ?_) (fun hc20 => ?_)
        · replace h := ite_t hc20 h
          refine lv_aload_n hx hb dX5_sell_84 rfl (lv_at hl 1 rfl) ?_
          refine lv_dup hx hb dX5_sell_85 rfl ?_
          refine gB_P hx hb hts hown (fun _ h => List.mem_cons_of_mem _ (List.mem_append_left _ (List.mem_append_left _ (List.mem_append_left _ (List.mem_append_left _ (List.mem_append_right _ h)))))) V hg15 1 1 (by decide) rfl (hts _ (List.mem_of_getElem? (i := 6) rfl)) dX5_sell_86 ?_
          refine lv_iload_n hx hb dX5_sell_89 rfl (lv_at hl 4 rfl) ?_
          refine lv_isub hx hb dX5_sell_90 ?_
          refine pB_P hx hb hts hown (fun _ h => List.mem_cons_of_mem _ (List.mem_append_left _ (List.mem_append_left _ (List.mem_append_left _ (List.mem_append_left _ (List.mem_append_right _ h)))))) V hg15 1 1 (by decide) rfl (hts _ (List.mem_of_getElem? (i := 6) rfl)) dX5_sell_91 (fun H locs V => ?_)
          refine lv_aload_n hx hb dX5_sell_94 rfl (lv_at hl 2 rfl) ?_
          refine rB_now hx hb hts hown (fun _ h => List.mem_cons_of_mem _ (List.mem_append_left _ (List.mem_append_left _ (List.mem_append_left _ (List.mem_append_left _ (List.mem_append_left _ (List.mem_append_right _ h))))))) V (hts _ (List.mem_of_getElem? (i := 5) rfl)) dX5_sell_95 ?_
          refine lv_dup hx hb dX5_sell_98 rfl ?_
          refine gB_T hx hb hts hown (fun _ h => List.mem_cons_of_mem _ (List.mem_append_left _ (List.mem_append_left _ (List.mem_append_left _ (List.mem_append_right _ h))))) V 4 25 (by decide) rfl (hts _ (List.mem_of_getElem? (i := 8) rfl)) dX5_sell_99 ?_
          refine lv_iload_n hx hb dX5_sell_102 rfl (lv_at hl 4 rfl) ?_
          refine lv_iadd hx hb dX5_sell_103 ?_
          refine pB_T hx hb hts hown (fun _ h => List.mem_cons_of_mem _ (List.mem_append_left _ (List.mem_append_left _ (List.mem_append_left _ (List.mem_append_right _ h))))) V 4 25 (by decide) rfl (hts _ (List.mem_of_getElem? (i := 8) rfl)) dX5_sell_104 (fun H locs V => ?_)
          refine lv_aload_n hx hb dX5_sell_107 rfl (lv_at hl 1 rfl) ?_
          refine lv_dup hx hb dX5_sell_108 rfl ?_
          refine gB_P hx hb hts hown (fun _ h => List.mem_cons_of_mem _ (List.mem_append_left _ (List.mem_append_left _ (List.mem_append_left _ (List.mem_append_left _ (List.mem_append_right _ h)))))) V hg15 0 0 (by decide) rfl (hts _ (List.mem_of_getElem? (i := 9) rfl)) dX5_sell_109 ?_
          refine lv_iload hx hb dX5_sell_112 (lv_at hl 0 rfl) ?_
          refine lv_iadd hx hb dX5_sell_114 ?_
          refine pB_P hx hb hts hown (fun _ h => List.mem_cons_of_mem _ (List.mem_append_left _ (List.mem_append_left _ (List.mem_append_left _ (List.mem_append_left _ (List.mem_append_right _ h)))))) V hg15 0 0 (by decide) rfl (hts _ (List.mem_of_getElem? (i := 9) rfl)) dX5_sell_115 (fun H locs V => ?_)
          refine lv_aload_n hx hb dX5_sell_118 rfl (lv_at hl 2 rfl) ?_
          refine rB_now hx hb hts hown (fun _ h => List.mem_cons_of_mem _ (List.mem_append_left _ (List.mem_append_left _ (List.mem_append_left _ (List.mem_append_left _ (List.mem_append_left _ (List.mem_append_right _ h))))))) V (hts _ (List.mem_of_getElem? (i := 5) rfl)) dX5_sell_119 ?_
          refine lv_dup hx hb dX5_sell_122 rfl ?_
          refine gB_T hx hb hts hown (fun _ h => List.mem_cons_of_mem _ (List.mem_append_left _ (List.mem_append_left _ (List.mem_append_left _ (List.mem_append_right _ h))))) V 5 26 (by decide) rfl (hts _ (List.mem_of_getElem? (i := 7) rfl)) dX5_sell_123 ?_
          refine lv_iload hx hb dX5_sell_126 (lv_at hl 0 rfl) ?_
          refine lv_isub hx hb dX5_sell_128 ?_
          refine pB_T hx hb hts hown (fun _ h => List.mem_cons_of_mem _ (List.mem_append_left _ (List.mem_append_left _ (List.mem_append_left _ (List.mem_append_right _ h))))) V 5 26 (by decide) rfl (hts _ (List.mem_of_getElem? (i := 7) rfl)) dX5_sell_129 (fun H locs V => ?_)
          refine lv_iload hx hb dX5_sell_132 (lv_at hl 0 rfl) ?_
          obtain rfl := Option.some.inj h
          exact m_iretX hx hb hr hlk V (Nat.zero_le _) (Nat.zero_le _) rfl dX5_sell_134
        · replace h := ite_f hc20 h
          obtain rfl := Option.some.inj h
          exact m_throw (text := "the bank does not have the coins") hstk hx hb hown hlk hno Z V (by decide +kernel) (hts _ (List.mem_of_getElem? (i := 3) rfl)) (hts _ (List.mem_of_getElem? (i := 4) rfl)) (List.mem_of_getElem? (i := 7) rfl) (fun w h => hts w ((fun _ h => List.mem_cons_of_mem _ (List.mem_append_left _ (List.mem_append_right _ h))) w h)) (mB_RX5_43) (mG_RX5_39_43) (hl.1.trans hml.symm) dX5_sell_74 dX5_sell_77 dX5_sell_78 dX5_sell_80 dX5_sell_83 (Nat.le_of_ble_eq_true rfl) (Nat.le_of_ble_eq_true rfl) (Nat.le_refl _) (Nat.le_refl _) (Nat.le_refl _) (Nat.le_refl _) rfl
      · replace h := ite_f hc19 h
        obtain rfl := Option.some.inj h
        exact m_throw (text := "the pocket does not hold so many") hstk hx hb hown hlk hno Z V (by decide +kernel) (hts _ (List.mem_of_getElem? (i := 3) rfl)) (hts _ (List.mem_of_getElem? (i := 4) rfl)) (List.mem_of_getElem? (i := 6) rfl) (fun w h => hts w ((fun _ h => List.mem_cons_of_mem _ (List.mem_append_left _ (List.mem_append_right _ h))) w h)) (mB_RX5_43) (mG_RX5_39_43) (hl.1.trans hml.symm) dX5_sell_52 dX5_sell_55 dX5_sell_56 dX5_sell_58 dX5_sell_61 (Nat.le_of_ble_eq_true rfl) (Nat.le_of_ble_eq_true rfl) (Nat.le_refl _) (Nat.le_refl _) (Nat.le_refl _) (Nat.le_refl _) rfl
    · replace h := ite_f hc17 h
      obtain rfl := Option.some.inj h
      exact m_throw (text := "n is not 1 to 10000") hstk hx hb hown hlk hno Z V (by decide +kernel) (hts _ (List.mem_of_getElem? (i := 1) rfl)) (hts _ (List.mem_of_getElem? (i := 2) rfl)) (List.mem_of_getElem? (i := 3) rfl) (fun w h => hts w ((fun _ h => List.mem_cons_of_mem _ (List.mem_append_left _ (List.mem_append_left _ (List.mem_append_right _ h)))) w h)) (mB_RX5_28) (mG_RX5_24_28) (hl.1.trans hml.symm) dX5_sell_20 dX5_sell_23 dX5_sell_24 dX5_sell_26 dX5_sell_29 (Nat.le_of_ble_eq_true rfl) (Nat.le_of_ble_eq_true rfl) (Nat.le_refl _) (Nat.le_refl _) (Nat.le_refl _) (Nat.le_refl _) rfl
  | inr e13 =>
    replace h := oCase_r ho14 h
    obtain rfl := Option.some.inj h
    refine kBSx (As := [.int a1]) (rest := []) ⟨hx, hb, hml, hown, hts⟩ Z V (mOr_throw ho14 (c_X4_playerAt (l := l) (D := D) (y := y) (ad := ad) hstk hq11)) (cwV 1 hts gX5_sell_X4_playerAt rfl rfl rfl (by decide +kernel) ⟨Nat.le_of_ble_eq_true rfl, Nat.le_of_ble_eq_true rfl⟩) (by omega) ((mB_0 y ad _ _ (by omega)).trans (mS_T y ad _)) rfl rfl hl.1 rfl (Nat.le_of_ble_eq_true rfl) ⟨Nat.le_refl _, Nat.le_refl _⟩ dX5_sell_5 (fun ce q9 H locs V hce hcv hcl => ?_)
    exact m_out hlk hno V rfl hce hcv hcl (Nat.le_refl _) (Nat.le_refl _)
-- X5_borrow
def f_X5_borrow (N : Nat) (σ τ : mSt) (a1 : Int32) (a2 : Int32) (a3 : Int32) (a4 : Int32) : Option ((Int32 ⊕ String) × mSt × mSt) := (f_X4_playerAt N σ a1).bind fun q25 => oCase q25.1 (fun r26 => if r26 < 8 then (f_X5_isOutside N q25.2 τ a2 1 5000).bind fun q30 => if q30.1 = 0 then (f_X5_isOutside N q30.2.1 q30.2.2 a3 0 100).bind fun q32 => if q32.1 = 0 then (f_X5_isOutside N q32.2.1 q32.2.2 a4 1 3600).bind fun q34 => if q34.1 = 0 then if a2 ≤ (q34.2.1 25 0) then (f_X4_loansOf N q34.2.1 a1 2).bind fun q37 => if 0 < q37.1 then some (.inr "java/lang/IllegalStateException", q37.2, q34.2.2) else (f_X4_loansOf N q37.2 a1 0).bind fun q39 => if q39.1 < 3 then if (q39.2 22 0) < 20 then (f_X4_loanAt N (mUp q39.2 22 0 ((q39.2 22 0) + 1)) (q39.2 22 0)).bind fun q42 => oCase q42.1 (fun r43 => if r43 < 20 then (f_X1_open N q42.2 r43 a1 a2 a3 ((q42.2 24 0) + a4)).bind fun q47 => (f_X4_handOut N q47.2 r26 a2).bind fun q48 => some (.inl (q39.2 22 0), q48.2, q34.2.2) else none) (fun e44 => some (.inr e44, q42.2, q34.2.2)) else some (.inr "java/lang/IllegalStateException", q39.2, q34.2.2) else some (.inr "java/lang/IllegalStateException", q39.2, q34.2.2) else some (.inr "java/lang/IllegalStateException", q34.2.1, q34.2.2) else some (.inr "java/lang/IllegalArgumentException", q34.2.1, q34.2.2) else some (.inr "java/lang/IllegalArgumentException", q32.2.1, q32.2.2) else some (.inr "java/lang/IllegalArgumentException", q30.2.1, q30.2.2) else none) (fun e27 => some (.inr e27, q25.2, τ))
set_option maxHeartbeats 4000000 in
set_option maxRecDepth 100000 in
theorem c_X5_borrow {l : Launch} {D : va_G} {y : Nat → ClassId} {ad : Nat → Nat} {N : Nat} {σ τ : mSt} {a1 : Int32} {a2 : Int32} {a3 : Int32} {a4 : Int32} {q : (Int32 ⊕ String) × mSt × mSt} (hstk : l.stackTraces = false) (h : f_X5_borrow N σ τ a1 a2 a3 a4 = some q) : mCX l yX5_borrow wsX5_borrow { frames := 7, cells := mOc q.1, slots := mOs q.1, locals := 103 } D y 161 ad mZ (mB y ad σ τ) [.ref (ad 160), .int a1, .int a2, .int a3, .int a4] (mOi q.1) (mB y ad q.2.1 q.2.2) (mOc q.1) (mOs q.1) := by
  refine m_startX (cc := cX5_borrow) (maxL := 7) (ret := (some .int)) (by decide) rfl (Nat.le_of_ble_eq_true rfl) (fun p e s m args below meth c ls hB hno V Z hl => ?_)
  obtain ⟨hx, hb, hml, hown, hts, hr, hlk⟩ := id hB
  have hl : lv_has ls 7 [(0, .ref (ad 160)), (1, .int a1), (2, .int a2), (3, .int a3), (4, .int a4)] := hl
  rw [f_X5_borrow] at h
  refine lv_aload_n hx hb dX5_borrow_0 rfl (lv_at hl 0 rfl) ?_
  refine rB_now hx hb hts hown (fun _ h => List.mem_cons_of_mem _ (List.mem_append_left _ (List.mem_append_left _ (List.mem_append_left _ (List.mem_append_left _ (List.mem_append_left _ (List.mem_append_left _ (List.mem_append_right _ h)))))))) V (hts _ (List.mem_of_getElem? (i := 5) rfl)) dX5_borrow_1 ?_
  refine lv_iload_n hx hb dX5_borrow_4 rfl (lv_at hl 1 rfl) ?_
  obtain ⟨q25, hq25, h⟩ := bd_s h
  cases ho28 : q25.1 with
  | inl r26 =>
    replace h := oCase_l ho28 h
    obtain ⟨hg29, h⟩ := gd_s h
    refine kBS (As := [.int a1]) (rest := []) ⟨hx, hb, hml, hown, hts⟩ Z V (mOr_plain ho28 (c_X4_playerAt (l := l) (D := D) (y := y) (ad := ad) hstk hq25)) (cwV 1 hts gX5_borrow_X4_playerAt rfl rfl rfl (by decide +kernel) ⟨Nat.le_of_ble_eq_true rfl, Nat.le_of_ble_eq_true rfl⟩) (by omega) ((mB_0 y ad _ _ (by omega)).trans (mS_T y ad _)) rfl rfl hl.1 rfl (Nat.le_of_ble_eq_true rfl) ⟨Nat.zero_le _, Nat.zero_le _⟩ rfl dX5_borrow_5 (fun H locs V => ?_)
    refine lv_astore (lv' := [(5, .ref (ad (4 + r26))), (0, .ref (ad 160)), (1, .int a1), (2, .int a2), (3, .int a3), (4, .int a4)]) hx hb dX5_borrow_8 hl (by decide) rfl (fun ls hl => ?_)
    refine lv_iload_n hx hb dX5_borrow_10 rfl (lv_at hl 3 rfl) ?_
    refine lv_iconst (v := 1) hx hb dX5_borrow_11 (by decide) ?_
    refine lv_sipush (v := 5000) hx hb dX5_borrow_12 (by decide) ?_
    obtain ⟨q30, hq30, h⟩ := bd_s h
    refine kBBs (As := [.int a2, .int 1, .int 5000]) (rest := []) ⟨hx, hb, hml, hown, hts⟩ Z V (c_X5_isOutside (l := l) (D := D) (y := y) (ad := ad) hstk hq30) (va_cwS 3 hts gX5_borrow_X5_isOutside rfl rfl rfl (by decide +kernel) ⟨Nat.le_of_ble_eq_true rfl, Nat.le_of_ble_eq_true rfl⟩) rfl hl.1 rfl (Nat.le_of_ble_eq_true rfl) ⟨Nat.zero_le _, Nat.zero_le _⟩ rfl dX5_borrow_15 (fun H locs V => ?_)
    refine lv_if_eq (tgt := 31) hx hb dX5_borrow_18 (by decide) (fun hc31 => ?_) (fun hc31 => ?_)
    · replace h := ite_t hc31 h
      refine lv_iload_n hx hb dX5_borrow_31 rfl (lv_at hl 4 rfl) ?_
      refine lv_iconst (v := 0) hx hb dX5_borrow_32 (by decide) ?_
      refine lv_bipush (v := 100) hx hb dX5_borrow_33 (by decide) ?_
      obtain ⟨q32, hq32, h⟩ := bd_s h
      refine kBBs (As := [.int a3, .int 0, .int 100]) (rest := []) ⟨hx, hb, hml, hown, hts⟩ Z V (c_X5_isOutside (l := l) (D := D) (y := y) (ad := ad) hstk hq32) (va_cwS 3 hts gX5_borrow_X5_isOutside rfl rfl rfl (by decide +kernel) ⟨Nat.le_of_ble_eq_true rfl, Nat.le_of_ble_eq_true rfl⟩) rfl hl.1 rfl (Nat.le_of_ble_eq_true rfl) ⟨Nat.zero_le _, Nat.zero_le _⟩ rfl dX5_borrow_35 (fun H locs V => ?_)
      refine lv_if_eq (tgt := 51) hx hb dX5_borrow_38 (by decide) (fun hc33 => ?_) (fun hc33 => ?_)
      · replace h := ite_t hc33 h
        refine lv_iload hx hb dX5_borrow_51 (lv_at hl 5 rfl) ?_
        refine lv_iconst (v := 1) hx hb dX5_borrow_53 (by decide) ?_
        refine lv_sipush (v := 3600) hx hb dX5_borrow_54 (by decide) ?_
        obtain ⟨q34, hq34, h⟩ := bd_s h
        refine kBBs (As := [.int a4, .int 1, .int 3600]) (rest := []) ⟨hx, hb, hml, hown, hts⟩ Z V (c_X5_isOutside (l := l) (D := D) (y := y) (ad := ad) hstk hq34) (va_cwS 3 hts gX5_borrow_X5_isOutside rfl rfl rfl (by decide +kernel) ⟨Nat.le_of_ble_eq_true rfl, Nat.le_of_ble_eq_true rfl⟩) rfl hl.1 rfl (Nat.le_of_ble_eq_true rfl) ⟨Nat.zero_le _, Nat.zero_le _⟩ rfl dX5_borrow_57 (fun H locs V => ?_)
        refine lv_if_eq (tgt := 73) hx hb dX5_borrow_60 (by decide) (fun hc35 => ?_) (fun hc35 => ?_)
        · replace h := ite_t hc35 h
          refine lv_iload_n hx hb dX5_borrow_73 rfl (lv_at hl 3 rfl) ?_
          refine lv_aload_n hx hb dX5_borrow_74 rfl (lv_at hl 1 rfl) ?_
          refine rB_now hx hb hts hown (fun _ h => List.mem_cons_of_mem _ (List.mem_append_left _ (List.mem_append_left _ (List.mem_append_left _ (List.mem_append_left _ (List.mem_append_left _ (List.mem_append_left _ (List.mem_append_right _ h)))))))) V (hts _ (List.mem_of_getElem? (i := 5) rfl)) dX5_borrow_75 ?_
          refine gB_T hx hb hts hown (fun _ h => List.mem_cons_of_mem _ (List.mem_append_left _ (List.mem_append_left _ (List.mem_append_left _ (List.mem_append_left _ (List.mem_append_left _ (List.mem_append_right _ h))))))) V 4 25 (by decide) rfl (hts _ (List.mem_of_getElem? (i := 6) rfl)) dX5_borrow_78 ?_
          refine lv_icmp_le (tgt := 94) hx hb dX5_borrow_81 (by decide) (fun hc36 => ?_) (fun hc36 => ?_)
          · replace h := ite_t hc36 h
            refine lv_aload_n hx hb dX5_borrow_94 rfl (lv_at hl 1 rfl) ?_
            refine rB_now hx hb hts hown (fun _ h => List.mem_cons_of_mem _ (List.mem_append_left _ (List.mem_append_left _ (List.mem_append_left _ (List.mem_append_left _ (List.mem_append_left _ (List.mem_append_left _ (List.mem_append_right _ h)))))))) V (hts _ (List.mem_of_getElem? (i := 5) rfl)) dX5_borrow_95 ?_
            refine lv_iload_n hx hb dX5_borrow_98 rfl (lv_at hl 2 rfl) ?_
            refine lv_iconst (v := 2) hx hb dX5_borrow_99 (by decide) ?_
            obtain ⟨q37, hq37, h⟩ := bd_s h
            refine kBS (As := [.int a1, .int 2]) (rest := []) ⟨hx, hb, hml, hown, hts⟩ Z V (c_X4_loansOf (l := l) (D := D) (y := y) (ad := ad) hstk hq37) (cwV 2 hts gX5_borrow_X4_loansOf rfl rfl rfl (by decide +kernel) ⟨Nat.le_of_ble_eq_true rfl, Nat.le_of_ble_eq_true rfl⟩) (by omega) ((mB_0 y ad _ _ (by omega)).trans (mS_T y ad _)) rfl rfl hl.1 rfl (Nat.le_of_ble_eq_true rfl) ⟨Nat.zero_le _, Nat.zero_le _⟩ rfl dX5_borrow_100 (fun H locs V => ?_)
            refine lv_if_gt (tgt := 119) hx hb dX5_borrow_103 (by decide) (fun hc38 => ?_) (fun hc38 => ?_)
            · replace h := ite_t hc38 h
              obtain rfl := Option.some.inj h
              exact m_throw (text := "the player has a bad loan or three open ones") hstk hx hb hown hlk hno Z V (by decide +kernel) (hts _ (List.mem_of_getElem? (i := 3) rfl)) (hts _ (List.mem_of_getElem? (i := 4) rfl)) (List.mem_of_getElem? (i := 11) rfl) (fun w h => hts w ((fun _ h => List.mem_cons_of_mem _ (List.mem_append_left _ (List.mem_append_right _ h))) w h)) (mB_RX5_43) (mG_RX5_39_43) (hl.1.trans hml.symm) dX5_borrow_119 dX5_borrow_122 dX5_borrow_123 dX5_borrow_125 dX5_borrow_128 (Nat.le_of_ble_eq_true rfl) (Nat.le_of_ble_eq_true rfl) (Nat.le_refl _) (Nat.le_refl _) (Nat.le_refl _) (Nat.le_refl _) rfl
            · replace h := ite_f hc38 h
              refine lv_aload_n hx hb dX5_borrow_106 rfl (lv_at hl 1 rfl) ?_
              refine rB_now hx hb hts hown (fun _ h => List.mem_cons_of_mem _ (List.mem_append_left _ (List.mem_append_left _ (List.mem_append_left _ (List.mem_append_left _ (List.mem_append_left _ (List.mem_append_left _ (List.mem_append_right _ h)))))))) V (hts _ (List.mem_of_getElem? (i := 5) rfl)) dX5_borrow_107 ?_
              refine lv_iload_n hx hb dX5_borrow_110 rfl (lv_at hl 2 rfl) ?_
              refine lv_iconst (v := 0) hx hb dX5_borrow_111 (by decide) ?_
              obtain ⟨q39, hq39, h⟩ := bd_s h
              refine kBS (As := [.int a1, .int 0]) (rest := []) ⟨hx, hb, hml, hown, hts⟩ Z V (c_X4_loansOf (l := l) (D := D) (y := y) (ad := ad) hstk hq39) (cwV 2 hts gX5_borrow_X4_loansOf rfl rfl rfl (by decide +kernel) ⟨Nat.le_of_ble_eq_true rfl, Nat.le_of_ble_eq_true rfl⟩) (by omega) ((mB_0 y ad _ _ (by omega)).trans (mS_T y ad _)) rfl rfl hl.1 rfl (Nat.le_of_ble_eq_true rfl) ⟨Nat.zero_le _, Nat.zero_le _⟩ rfl dX5_borrow_112 (fun H locs V => ?_)
              refine lv_iconst (v := 3) hx hb dX5_borrow_115 (by decide) ?_
              refine lv_icmp_lt (tgt := 129) hx hb dX5_borrow_116 (by decide) (fun hc40 => ?_) (fun hc40 => ?_)
              · replace h := ite_t hc40 h
                refine lv_aload_n hx hb dX5_borrow_129 rfl (lv_at hl 1 rfl) ?_
                refine rB_now hx hb hts hown (fun _ h => List.mem_cons_of_mem _ (List.mem_append_left _ (List.mem_append_left _ (List.mem_append_left _ (List.mem_append_left _ (List.mem_append_left _ (List.mem_append_left _ (List.mem_append_right _ h)))))))) V (hts _ (List.mem_of_getElem? (i := 5) rfl)) dX5_borrow_130 ?_
                refine gB_T hx hb hts hown (fun _ h => List.mem_cons_of_mem _ (List.mem_append_left _ (List.mem_append_left _ (List.mem_append_left _ (List.mem_append_left _ (List.mem_append_left _ (List.mem_append_right _ h))))))) V 1 22 (by decide) rfl (hts _ (List.mem_of_getElem? (i := 7) rfl)) dX5_borrow_133 ?_
                refine lv_aload_n hx hb dX5_borrow_136 rfl (lv_at hl 1 rfl) ?_
                refine rB_now hx hb hts hown (fun _ h => List.mem_cons_of_mem _ (List.mem_append_left _ (List.mem_append_left _ (List.mem_append_left _ (List.mem_append_left _ (List.mem_append_left _ (List.mem_append_left _ (List.mem_append_right _ h)))))))) V (hts _ (List.mem_of_getElem? (i := 5) rfl)) dX5_borrow_137 ?_
                refine rB_L hx hb hts hown (fun _ h => List.mem_cons_of_mem _ (List.mem_append_left _ (List.mem_append_left _ (List.mem_append_left _ (List.mem_append_left _ (List.mem_append_left _ (List.mem_append_right _ h))))))) V (hts _ (List.mem_of_getElem? (i := 8) rfl)) dX5_borrow_140 ?_
                refine nB_L hx hb V dX5_borrow_143 ?_
                refine lv_icmp_lt (tgt := 157) hx hb dX5_borrow_144 (by decide) (fun hc41 => ?_) (fun hc41 => ?_)
                · replace h := ite_t hc41 h
                  refine lv_aload_n hx hb dX5_borrow_157 rfl (lv_at hl 1 rfl) ?_
                  refine rB_now hx hb hts hown (fun _ h => List.mem_cons_of_mem _ (List.mem_append_left _ (List.mem_append_left _ (List.mem_append_left _ (List.mem_append_left _ (List.mem_append_left _ (List.mem_append_left _ (List.mem_append_right _ h)))))))) V (hts _ (List.mem_of_getElem? (i := 5) rfl)) dX5_borrow_158 ?_
                  refine gB_T hx hb hts hown (fun _ h => List.mem_cons_of_mem _ (List.mem_append_left _ (List.mem_append_left _ (List.mem_append_left _ (List.mem_append_left _ (List.mem_append_left _ (List.mem_append_right _ h))))))) V 1 22 (by decide) rfl (hts _ (List.mem_of_getElem? (i := 7) rfl)) dX5_borrow_161 ?_
                  refine lv_istore (lv' := [(6, .int (q39.2 22 0)), (5, .ref (ad (4 + r26))), (0, .ref (ad 160)), (1, .int a1), (2, .int a2), (3, .int a3), (4, .int a4)]) hx hb dX5_borrow_164 hl (by decide) rfl (fun ls hl => ?_)
                  refine lv_aload_n hx hb dX5_borrow_166 rfl (lv_at hl 2 rfl) ?_
                  refine rB_now hx hb hts hown (fun _ h => List.mem_cons_of_mem _ (List.mem_append_left _ (List.mem_append_left _ (List.mem_append_left _ (List.mem_append_left _ (List.mem_append_left _ (List.mem_append_left _ (List.mem_append_right _ h)))))))) V (hts _ (List.mem_of_getElem? (i := 5) rfl)) dX5_borrow_167 ?_
                  refine lv_dup hx hb dX5_borrow_170 rfl ?_
                  refine gB_T hx hb hts hown (fun _ h => List.mem_cons_of_mem _ (List.mem_append_left _ (List.mem_append_left _ (List.mem_append_left _ (List.mem_append_left _ (List.mem_append_left _ (List.mem_append_right _ h))))))) V 1 22 (by decide) rfl (hts _ (List.mem_of_getElem? (i := 7) rfl)) dX5_borrow_171 ?_
                  refine lv_iconst (v := 1) hx hb dX5_borrow_174 (by decide) ?_
                  refine lv_iadd hx hb dX5_borrow_175 ?_
                  refine pB_T hx hb hts hown (fun _ h => List.mem_cons_of_mem _ (List.mem_append_left _ (List.mem_append_left _ (List.mem_append_left _ (List.mem_append_left _ (List.mem_append_left _ (List.mem_append_right _ h))))))) V 1 22 (by decide) rfl (hts _ (List.mem_of_getElem? (i := 7) rfl)) dX5_borrow_176 (fun H locs V => ?_)
                  refine lv_aload_n hx hb dX5_borrow_179 rfl (lv_at hl 2 rfl) ?_
                  refine rB_now hx hb hts hown (fun _ h => List.mem_cons_of_mem _ (List.mem_append_left _ (List.mem_append_left _ (List.mem_append_left _ (List.mem_append_left _ (List.mem_append_left _ (List.mem_append_left _ (List.mem_append_right _ h)))))))) V (hts _ (List.mem_of_getElem? (i := 5) rfl)) dX5_borrow_180 ?_
                  refine lv_iload hx hb dX5_borrow_183 (lv_at hl 0 rfl) ?_
                  obtain ⟨q42, hq42, h⟩ := bd_s h
                  cases ho45 : q42.1 with
                  | inl r43 =>
                    replace h := oCase_l ho45 h
                    obtain ⟨hg46, h⟩ := gd_s h
                    refine kBS (As := [.int (q39.2 22 0)]) (rest := []) ⟨hx, hb, hml, hown, hts⟩ Z V (mOr_plain ho45 (c_X4_loanAt (l := l) (D := D) (y := y) (ad := ad) hstk hq42)) (cwV 1 hts gX5_borrow_X4_loanAt rfl rfl rfl (by decide +kernel) ⟨Nat.le_of_ble_eq_true rfl, Nat.le_of_ble_eq_true rfl⟩) (by omega) ((mB_0 y ad _ _ (by omega)).trans (mS_T y ad _)) rfl rfl hl.1 rfl (Nat.le_of_ble_eq_true rfl) ⟨Nat.zero_le _, Nat.zero_le _⟩ rfl dX5_borrow_185 (fun H locs V => ?_)
                    refine lv_iload_n hx hb dX5_borrow_188 rfl (lv_at hl 3 rfl) ?_
                    refine lv_iload_n hx hb dX5_borrow_189 rfl (lv_at hl 4 rfl) ?_
                    refine lv_iload_n hx hb dX5_borrow_190 rfl (lv_at hl 5 rfl) ?_
                    refine lv_aload_n hx hb dX5_borrow_191 rfl (lv_at hl 2 rfl) ?_
                    refine rB_now hx hb hts hown (fun _ h => List.mem_cons_of_mem _ (List.mem_append_left _ (List.mem_append_left _ (List.mem_append_left _ (List.mem_append_left _ (List.mem_append_left _ (List.mem_append_left _ (List.mem_append_right _ h)))))))) V (hts _ (List.mem_of_getElem? (i := 5) rfl)) dX5_borrow_192 ?_
                    refine gB_T hx hb hts hown (fun _ h => List.mem_cons_of_mem _ (List.mem_append_left _ (List.mem_append_left _ (List.mem_append_left _ (List.mem_append_left _ (List.mem_append_left _ (List.mem_append_right _ h))))))) V 3 24 (by decide) rfl (hts _ (List.mem_of_getElem? (i := 9) rfl)) dX5_borrow_195 ?_
                    refine lv_iload hx hb dX5_borrow_198 (lv_at hl 6 rfl) ?_
                    refine lv_iadd hx hb dX5_borrow_200 ?_
                    obtain ⟨q47, hq47, h⟩ := bd_s h
                    refine kBS (As := [.int a1, .int a2, .int a3, .int ((q42.2 24 0) + a4)]) (rest := []) ⟨hx, hb, hml, hown, hts⟩ Z V (c_X1_open (l := l) (D := D) (y := y) (ad := ad) hstk hq47) (cwV 4 hts gX5_borrow_X1_open rfl rfl rfl (by decide +kernel) ⟨Nat.le_of_ble_eq_true rfl, Nat.le_of_ble_eq_true rfl⟩) (by omega) ((mB_0 y ad _ _ (by omega)).trans (mS_L y ad _ hg46)) rfl rfl hl.1 rfl (Nat.le_of_ble_eq_true rfl) ⟨Nat.zero_le _, Nat.zero_le _⟩ rfl dX5_borrow_201 (fun H locs V => ?_)
                    refine lv_aload_n hx hb dX5_borrow_204 rfl (lv_at hl 2 rfl) ?_
                    refine rB_now hx hb hts hown (fun _ h => List.mem_cons_of_mem _ (List.mem_append_left _ (List.mem_append_left _ (List.mem_append_left _ (List.mem_append_left _ (List.mem_append_left _ (List.mem_append_left _ (List.mem_append_right _ h)))))))) V (hts _ (List.mem_of_getElem? (i := 5) rfl)) dX5_borrow_205 ?_
                    refine lv_aload hx hb dX5_borrow_208 (lv_at hl 1 rfl) ?_
                    refine lv_iload_n hx hb dX5_borrow_210 rfl (lv_at hl 4 rfl) ?_
                    obtain ⟨q48, hq48, h⟩ := bd_s h
                    refine kBS (As := [.ref (ad (4 + r26)), .int a2]) (rest := []) ⟨hx, hb, hml, hown, hts⟩ Z V (c_X4_handOut (l := l) (D := D) (y := y) (ad := ad) hstk hq48) (cwV 2 hts gX5_borrow_X4_handOut rfl rfl rfl (by decide +kernel) ⟨Nat.le_of_ble_eq_true rfl, Nat.le_of_ble_eq_true rfl⟩) (by omega) ((mB_0 y ad _ _ (by omega)).trans (mS_T y ad _)) rfl rfl hl.1 rfl (Nat.le_of_ble_eq_true rfl) ⟨Nat.zero_le _, Nat.zero_le _⟩ rfl dX5_borrow_211 (fun H locs V => ?_)
                    refine lv_iload hx hb dX5_borrow_214 (lv_at hl 0 rfl) ?_
                    obtain rfl := Option.some.inj h
                    exact m_iretX hx hb hr hlk V (Nat.zero_le _) (Nat.zero_le _) rfl dX5_borrow_216
                  | inr e44 =>
                    replace h := oCase_r ho45 h
                    obtain rfl := Option.some.inj h
                    refine kBSx (As := [.int (q39.2 22 0)]) (rest := []) ⟨hx, hb, hml, hown, hts⟩ Z V (mOr_throw ho45 (c_X4_loanAt (l := l) (D := D) (y := y) (ad := ad) hstk hq42)) (cwV 1 hts gX5_borrow_X4_loanAt rfl rfl rfl (by decide +kernel) ⟨Nat.le_of_ble_eq_true rfl, Nat.le_of_ble_eq_true rfl⟩) (by omega) ((mB_0 y ad _ _ (by omega)).trans (mS_T y ad _)) rfl rfl hl.1 rfl (Nat.le_of_ble_eq_true rfl) ⟨Nat.le_refl _, Nat.le_refl _⟩ dX5_borrow_185 (fun ce q9 H locs V hce hcv hcl => ?_)
                    exact m_out hlk hno V rfl hce hcv hcl (Nat.le_refl _) (Nat.le_refl _)
                · replace h := ite_f hc41 h
                  obtain rfl := Option.some.inj h
                  exact m_throw (text := "there are 20 loans") hstk hx hb hown hlk hno Z V (by decide +kernel) (hts _ (List.mem_of_getElem? (i := 3) rfl)) (hts _ (List.mem_of_getElem? (i := 4) rfl)) (List.mem_of_getElem? (i := 12) rfl) (fun w h => hts w ((fun _ h => List.mem_cons_of_mem _ (List.mem_append_left _ (List.mem_append_right _ h))) w h)) (mB_RX5_43) (mG_RX5_39_43) (hl.1.trans hml.symm) dX5_borrow_147 dX5_borrow_150 dX5_borrow_151 dX5_borrow_153 dX5_borrow_156 (Nat.le_of_ble_eq_true rfl) (Nat.le_of_ble_eq_true rfl) (Nat.le_refl _) (Nat.le_refl _) (Nat.le_refl _) (Nat.le_refl _) rfl
              · replace h := ite_f hc40 h
                obtain rfl := Option.some.inj h
                exact m_throw (text := "the player has a bad loan or three open ones") hstk hx hb hown hlk hno Z V (by decide +kernel) (hts _ (List.mem_of_getElem? (i := 3) rfl)) (hts _ (List.mem_of_getElem? (i := 4) rfl)) (List.mem_of_getElem? (i := 11) rfl) (fun w h => hts w ((fun _ h => List.mem_cons_of_mem _ (List.mem_append_left _ (List.mem_append_right _ h))) w h)) (mB_RX5_43) (mG_RX5_39_43) (hl.1.trans hml.symm) dX5_borrow_119 dX5_borrow_122 dX5_borrow_123 dX5_borrow_125 dX5_borrow_128 (Nat.le_of_ble_eq_true rfl) (Nat.le_of_ble_eq_true rfl) (Nat.le_refl _) (Nat.le_refl _) (Nat.le_refl _) (Nat.le_refl _) rfl
          · replace h := ite_f hc36 h
            obtain rfl := Option.some.inj h
            exact m_throw (text := "the reserve does not hold so many") hstk hx hb hown hlk hno Z V (by decide +kernel) (hts _ (List.mem_of_getElem? (i := 3) rfl)) (hts _ (List.mem_of_getElem? (i := 4) rfl)) (List.mem_of_getElem? (i := 4) rfl) (fun w h => hts w ((fun _ h => List.mem_cons_of_mem _ (List.mem_append_left _ (List.mem_append_right _ h))) w h)) (mB_RX5_43) (mG_RX5_39_43) (hl.1.trans hml.symm) dX5_borrow_84 dX5_borrow_87 dX5_borrow_88 dX5_borrow_90 dX5_borrow_93 (Nat.le_of_ble_eq_true rfl) (Nat.le_of_ble_eq_true rfl) (Nat.le_refl _) (Nat.le_refl _) (Nat.le_refl _) (Nat.le_refl _) rfl
        · replace h := ite_f hc35 h
          obtain rfl := Option.some.inj h
          exact m_throw (text := "seconds is not 1 to 3600") hstk hx hb hown hlk hno Z V (by decide +kernel) (hts _ (List.mem_of_getElem? (i := 1) rfl)) (hts _ (List.mem_of_getElem? (i := 2) rfl)) (List.mem_of_getElem? (i := 10) rfl) (fun w h => hts w ((fun _ h => List.mem_cons_of_mem _ (List.mem_append_left _ (List.mem_append_left _ (List.mem_append_right _ h)))) w h)) (mB_RX5_28) (mG_RX5_24_28) (hl.1.trans hml.symm) dX5_borrow_63 dX5_borrow_66 dX5_borrow_67 dX5_borrow_69 dX5_borrow_72 (Nat.le_of_ble_eq_true rfl) (Nat.le_of_ble_eq_true rfl) (Nat.le_refl _) (Nat.le_refl _) (Nat.le_refl _) (Nat.le_refl _) rfl
      · replace h := ite_f hc33 h
        obtain rfl := Option.some.inj h
        exact m_throw (text := "rate is not 0 to 100") hstk hx hb hown hlk hno Z V (by decide +kernel) (hts _ (List.mem_of_getElem? (i := 1) rfl)) (hts _ (List.mem_of_getElem? (i := 2) rfl)) (List.mem_of_getElem? (i := 9) rfl) (fun w h => hts w ((fun _ h => List.mem_cons_of_mem _ (List.mem_append_left _ (List.mem_append_left _ (List.mem_append_right _ h)))) w h)) (mB_RX5_28) (mG_RX5_24_28) (hl.1.trans hml.symm) dX5_borrow_41 dX5_borrow_44 dX5_borrow_45 dX5_borrow_47 dX5_borrow_50 (Nat.le_of_ble_eq_true rfl) (Nat.le_of_ble_eq_true rfl) (Nat.le_refl _) (Nat.le_refl _) (Nat.le_refl _) (Nat.le_refl _) rfl
    · replace h := ite_f hc31 h
      obtain rfl := Option.some.inj h
      exact m_throw (text := "n is not 1 to 5000") hstk hx hb hown hlk hno Z V (by decide +kernel) (hts _ (List.mem_of_getElem? (i := 1) rfl)) (hts _ (List.mem_of_getElem? (i := 2) rfl)) (List.mem_of_getElem? (i := 8) rfl) (fun w h => hts w ((fun _ h => List.mem_cons_of_mem _ (List.mem_append_left _ (List.mem_append_left _ (List.mem_append_right _ h)))) w h)) (mB_RX5_28) (mG_RX5_24_28) (hl.1.trans hml.symm) dX5_borrow_21 dX5_borrow_24 dX5_borrow_25 dX5_borrow_27 dX5_borrow_30 (Nat.le_of_ble_eq_true rfl) (Nat.le_of_ble_eq_true rfl) (Nat.le_refl _) (Nat.le_refl _) (Nat.le_refl _) (Nat.le_refl _) rfl
  | inr e27 =>
    replace h := oCase_r ho28 h
    obtain rfl := Option.some.inj h
    refine kBSx (As := [.int a1]) (rest := []) ⟨hx, hb, hml, hown, hts⟩ Z V (mOr_throw ho28 (c_X4_playerAt (l := l) (D := D) (y := y) (ad := ad) hstk hq25)) (cwV 1 hts gX5_borrow_X4_playerAt rfl rfl rfl (by decide +kernel) ⟨Nat.le_of_ble_eq_true rfl, Nat.le_of_ble_eq_true rfl⟩) (by omega) ((mB_0 y ad _ _ (by omega)).trans (mS_T y ad _)) rfl rfl hl.1 rfl (Nat.le_of_ble_eq_true rfl) ⟨Nat.le_refl _, Nat.le_refl _⟩ dX5_borrow_5 (fun ce q9 H locs V hce hcv hcl => ?_)
    exact m_out hlk hno V rfl hce hcv hcl (Nat.le_refl _) (Nat.le_refl _)
-- X5_repay
def f_X5_repay (N : Nat) (σ τ : mSt) (a1 : Int32) (a2 : Int32) : Option ((Int32 ⊕ String) × mSt × mSt) := (f_X4_loanAt N σ a1).bind fun q11 => oCase q11.1 (fun r12 => if r12 < 20 then (f_X5_isOutside N q11.2 τ a2 1 1000000).bind fun q16 => if q16.1 = 0 then if (q16.2.1 9 r12) = 1 then some (.inr "java/lang/IllegalStateException", q16.2.1, q16.2.2) else (f_X4_takeFromPocket N q16.2.1 r12 a2).bind fun q19 => if (q19.2 6 r12) = 0 then some (.inl q19.1, (mUp q19.2 9 r12 1), q16.2.2) else some (.inl q19.1, q19.2, q16.2.2) else some (.inr "java/lang/IllegalArgumentException", q16.2.1, q16.2.2) else none) (fun e13 => some (.inr e13, q11.2, τ))
set_option maxHeartbeats 4000000 in
set_option maxRecDepth 100000 in
theorem c_X5_repay {l : Launch} {D : va_G} {y : Nat → ClassId} {ad : Nat → Nat} {N : Nat} {σ τ : mSt} {a1 : Int32} {a2 : Int32} {q : (Int32 ⊕ String) × mSt × mSt} (hstk : l.stackTraces = false) (h : f_X5_repay N σ τ a1 a2 = some q) : mCX l yX5_repay wsX5_repay { frames := 8, cells := mOc q.1, slots := mOs q.1, locals := 127 } D y 161 ad mZ (mB y ad σ τ) [.ref (ad 160), .int a1, .int a2] (mOi q.1) (mB y ad q.2.1 q.2.2) (mOc q.1) (mOs q.1) := by
  refine m_startX (cc := cX5_repay) (maxL := 5) (ret := (some .int)) (by decide) rfl (Nat.le_of_ble_eq_true rfl) (fun p e s m args below meth c ls hB hno V Z hl => ?_)
  obtain ⟨hx, hb, hml, hown, hts, hr, hlk⟩ := id hB
  have hl : lv_has ls 5 [(0, .ref (ad 160)), (1, .int a1), (2, .int a2)] := hl
  rw [f_X5_repay] at h
  refine lv_aload_n hx hb dX5_repay_0 rfl (lv_at hl 0 rfl) ?_
  refine rB_now hx hb hts hown (fun _ h => List.mem_cons_of_mem _ (List.mem_append_left _ (List.mem_append_left _ (List.mem_append_left _ (List.mem_append_left _ (List.mem_append_left _ (List.mem_append_left _ (List.mem_append_right _ h)))))))) V (hts _ (List.mem_of_getElem? (i := 5) rfl)) dX5_repay_1 ?_
  refine lv_iload_n hx hb dX5_repay_4 rfl (lv_at hl 1 rfl) ?_
  obtain ⟨q11, hq11, h⟩ := bd_s h
  cases ho14 : q11.1 with
  | inl r12 =>
    replace h := oCase_l ho14 h
    obtain ⟨hg15, h⟩ := gd_s h
    refine kBS (As := [.int a1]) (rest := []) ⟨hx, hb, hml, hown, hts⟩ Z V (mOr_plain ho14 (c_X4_loanAt (l := l) (D := D) (y := y) (ad := ad) hstk hq11)) (cwV 1 hts gX5_repay_X4_loanAt rfl rfl rfl (by decide +kernel) ⟨Nat.le_of_ble_eq_true rfl, Nat.le_of_ble_eq_true rfl⟩) (by omega) ((mB_0 y ad _ _ (by omega)).trans (mS_T y ad _)) rfl rfl hl.1 rfl (Nat.le_of_ble_eq_true rfl) ⟨Nat.zero_le _, Nat.zero_le _⟩ rfl dX5_repay_5 (fun H locs V => ?_)
    refine lv_astore_n (lv' := [(3, .ref (ad (12 + r12))), (0, .ref (ad 160)), (1, .int a1), (2, .int a2)]) hx hb dX5_repay_8 rfl hl (by decide) rfl (fun ls hl => ?_)
    refine lv_iload_n hx hb dX5_repay_9 rfl (lv_at hl 3 rfl) ?_
    refine lv_iconst (v := 1) hx hb dX5_repay_10 (by decide) ?_
    refine lv_ldc (v := 1000000) hx hb hown (hts _ (List.mem_of_getElem? (i := 6) rfl)) dX5_repay_11 ?_
    obtain ⟨q16, hq16, h⟩ := bd_s h
    refine kBBs (As := [.int a2, .int 1, .int 1000000]) (rest := []) ⟨hx, hb, hml, hown, hts⟩ Z V (c_X5_isOutside (l := l) (D := D) (y := y) (ad := ad) hstk hq16) (va_cwS 3 hts gX5_repay_X5_isOutside rfl rfl rfl (by decide +kernel) ⟨Nat.le_of_ble_eq_true rfl, Nat.le_of_ble_eq_true rfl⟩) rfl hl.1 rfl (Nat.le_of_ble_eq_true rfl) ⟨Nat.zero_le _, Nat.zero_le _⟩ rfl dX5_repay_13 (fun H locs V => ?_)
    refine lv_if_eq (tgt := 29) hx hb dX5_repay_16 (by decide) (fun hc17 => ?_) (fun hc17 => ?_)
    · replace h := ite_t hc17 h
      refine lv_aload_n hx hb dX5_repay_29 rfl (lv_at hl 0 rfl) ?_
      refine gB_L hx hb hts hown (fun _ h => List.mem_cons_of_mem _ (List.mem_append_left _ (List.mem_append_left _ (List.mem_append_left _ (List.mem_append_left _ (List.mem_append_left _ (List.mem_append_right _ h))))))) V hg15 4 9 (by decide) rfl (hts _ (List.mem_of_getElem? (i := 7) rfl)) dX5_repay_30 ?_
      refine lv_iconst (v := 1) hx hb dX5_repay_33 (by decide) ?_
      refine lv_icmp_ne (tgt := 47) hx hb dX5_repay_34 (by decide) (fun hc18 => ?_) (fun hc18 => ?_)
      · replace h := ite_f hc18 h
        refine lv_aload_n hx hb dX5_repay_47 rfl (lv_at hl 1 rfl) ?_
        refine rB_now hx hb hts hown (fun _ h => List.mem_cons_of_mem _ (List.mem_append_left _ (List.mem_append_left _ (List.mem_append_left _ (List.mem_append_left _ (List.mem_append_left _ (List.mem_append_left _ (List.mem_append_right _ h)))))))) V (hts _ (List.mem_of_getElem? (i := 5) rfl)) dX5_repay_48 ?_
        refine lv_aload_n hx hb dX5_repay_51 rfl (lv_at hl 0 rfl) ?_
        refine lv_iload_n hx hb dX5_repay_52 rfl (lv_at hl 3 rfl) ?_
        obtain ⟨q19, hq19, h⟩ := bd_s h
        refine kBS (As := [.ref (ad (12 + r12)), .int a2]) (rest := []) ⟨hx, hb, hml, hown, hts⟩ Z V (c_X4_takeFromPocket (l := l) (D := D) (y := y) (ad := ad) hstk hq19) (cwV 2 hts gX5_repay_X4_takeFromPocket rfl rfl rfl (by decide +kernel) ⟨Nat.le_of_ble_eq_true rfl, Nat.le_of_ble_eq_true rfl⟩) (by omega) ((mB_0 y ad _ _ (by omega)).trans (mS_T y ad _)) rfl rfl hl.1 rfl (Nat.le_of_ble_eq_true rfl) ⟨Nat.zero_le _, Nat.zero_le _⟩ rfl dX5_repay_53 (fun H locs V => ?_)
        refine lv_istore (lv' := [(4, .int q19.1), (3, .ref (ad (12 + r12))), (0, .ref (ad 160)), (1, .int a1), (2, .int a2)]) hx hb dX5_repay_56 hl (by decide) rfl (fun ls hl => ?_)
        refine lv_aload_n hx hb dX5_repay_58 rfl (lv_at hl 1 rfl) ?_
        refine gB_L hx hb hts hown (fun _ h => List.mem_cons_of_mem _ (List.mem_append_left _ (List.mem_append_left _ (List.mem_append_left _ (List.mem_append_left _ (List.mem_append_left _ (List.mem_append_right _ h))))))) V hg15 1 6 (by decide) rfl (hts _ (List.mem_of_getElem? (i := 8) rfl)) dX5_repay_59 ?_
        refine lv_if_ne (tgt := 70) hx hb dX5_repay_62 (by decide) (fun hc20 => ?_) (fun hc20 => ?_)
        · replace h := ite_f hc20 h
          refine lv_iload hx hb dX5_repay_70 (lv_at hl 0 rfl) ?_
          obtain rfl := Option.some.inj h
          exact m_iretX hx hb hr hlk V (Nat.zero_le _) (Nat.zero_le _) rfl dX5_repay_72
        · replace h := ite_t hc20 h
          refine lv_aload_n hx hb dX5_repay_65 rfl (lv_at hl 1 rfl) ?_
          refine lv_iconst (v := 1) hx hb dX5_repay_66 (by decide) ?_
          refine pB_L hx hb hts hown (fun _ h => List.mem_cons_of_mem _ (List.mem_append_left _ (List.mem_append_left _ (List.mem_append_left _ (List.mem_append_left _ (List.mem_append_left _ (List.mem_append_right _ h))))))) V hg15 4 9 (by decide) rfl (hts _ (List.mem_of_getElem? (i := 7) rfl)) dX5_repay_67 (fun H locs V => ?_)
          refine lv_iload hx hb dX5_repay_70 (lv_at hl 0 rfl) ?_
          obtain rfl := Option.some.inj h
          exact m_iretX hx hb hr hlk V (Nat.zero_le _) (Nat.zero_le _) rfl dX5_repay_72
      · replace h := ite_t hc18 h
        obtain rfl := Option.some.inj h
        exact m_throw (text := "the loan is closed") hstk hx hb hown hlk hno Z V (by decide +kernel) (hts _ (List.mem_of_getElem? (i := 3) rfl)) (hts _ (List.mem_of_getElem? (i := 4) rfl)) (List.mem_of_getElem? (i := 14) rfl) (fun w h => hts w ((fun _ h => List.mem_cons_of_mem _ (List.mem_append_left _ (List.mem_append_right _ h))) w h)) (mB_RX5_43) (mG_RX5_39_43) (hl.1.trans hml.symm) dX5_repay_37 dX5_repay_40 dX5_repay_41 dX5_repay_43 dX5_repay_46 (Nat.le_of_ble_eq_true rfl) (Nat.le_of_ble_eq_true rfl) (Nat.le_refl _) (Nat.le_refl _) (Nat.le_refl _) (Nat.le_refl _) rfl
    · replace h := ite_f hc17 h
      obtain rfl := Option.some.inj h
      exact m_throw (text := "n is not 1 to 1000000") hstk hx hb hown hlk hno Z V (by decide +kernel) (hts _ (List.mem_of_getElem? (i := 1) rfl)) (hts _ (List.mem_of_getElem? (i := 2) rfl)) (List.mem_of_getElem? (i := 13) rfl) (fun w h => hts w ((fun _ h => List.mem_cons_of_mem _ (List.mem_append_left _ (List.mem_append_left _ (List.mem_append_right _ h)))) w h)) (mB_RX5_28) (mG_RX5_24_28) (hl.1.trans hml.symm) dX5_repay_19 dX5_repay_22 dX5_repay_23 dX5_repay_25 dX5_repay_28 (Nat.le_of_ble_eq_true rfl) (Nat.le_of_ble_eq_true rfl) (Nat.le_refl _) (Nat.le_refl _) (Nat.le_refl _) (Nat.le_refl _) rfl
  | inr e13 =>
    replace h := oCase_r ho14 h
    obtain rfl := Option.some.inj h
    refine kBSx (As := [.int a1]) (rest := []) ⟨hx, hb, hml, hown, hts⟩ Z V (mOr_throw ho14 (c_X4_loanAt (l := l) (D := D) (y := y) (ad := ad) hstk hq11)) (cwV 1 hts gX5_repay_X4_loanAt rfl rfl rfl (by decide +kernel) ⟨Nat.le_of_ble_eq_true rfl, Nat.le_of_ble_eq_true rfl⟩) (by omega) ((mB_0 y ad _ _ (by omega)).trans (mS_T y ad _)) rfl rfl hl.1 rfl (Nat.le_of_ble_eq_true rfl) ⟨Nat.le_refl _, Nat.le_refl _⟩ dX5_repay_5 (fun ce q9 H locs V hce hcv hcl => ?_)
    exact m_out hlk hno V rfl hce hcv hcl (Nat.le_refl _) (Nat.le_refl _)
-- X5_loan
def f_X5_loan (N : Nat) (σ τ : mSt) (a1 : Int32) (a2 : Int32) : Option ((Int32 ⊕ String) × mSt × mSt) := (f_X4_loanAt N σ a1).bind fun q12 => oCase q12.1 (fun r13 => if r13 < 20 then if a2.toInt < 0 ∨ 4 < a2.toInt then some (.inr "java/lang/IndexOutOfBoundsException", q12.2, τ) else if a2 = 0 then some (.inl (q12.2 5 r13), q12.2, τ) else if a2 = 1 then some (.inl (q12.2 6 r13), q12.2, τ) else if a2 = 2 then some (.inl (q12.2 7 r13), q12.2, τ) else if a2 = 3 then some (.inl (q12.2 8 r13), q12.2, τ) else if a2 = 4 then some (.inl (q12.2 9 r13), q12.2, τ) else none else none) (fun e14 => some (.inr e14, q12.2, τ))
set_option maxHeartbeats 4000000 in
set_option maxRecDepth 100000 in
theorem c_X5_loan {l : Launch} {D : va_G} {y : Nat → ClassId} {ad : Nat → Nat} {N : Nat} {σ τ : mSt} {a1 : Int32} {a2 : Int32} {q : (Int32 ⊕ String) × mSt × mSt} (hstk : l.stackTraces = false) (h : f_X5_loan N σ τ a1 a2 = some q) : mCX l yX5_loan wsX5_loan { frames := 7, cells := mOc q.1, slots := mOs q.1, locals := 103 } D y 161 ad mZ (mB y ad σ τ) [.ref (ad 160), .int a1, .int a2] (mOi q.1) (mB y ad q.2.1 q.2.2) (mOc q.1) (mOs q.1) := by
  refine m_startX (cc := cX5_loan) (maxL := 4) (ret := (some .int)) (by decide) rfl (Nat.le_of_ble_eq_true rfl) (fun p e s m args below meth c ls hB hno V Z hl => ?_)
  obtain ⟨hx, hb, hml, hown, hts, hr, hlk⟩ := id hB
  have hl : lv_has ls 4 [(0, .ref (ad 160)), (1, .int a1), (2, .int a2)] := hl
  rw [f_X5_loan] at h
  refine lv_aload_n hx hb dX5_loan_0 rfl (lv_at hl 0 rfl) ?_
  refine rB_now hx hb hts hown (fun _ h => List.mem_cons_of_mem _ (List.mem_append_left _ (List.mem_append_left _ (List.mem_append_left _ (List.mem_append_left _ (List.mem_append_right _ h)))))) V (hts _ (List.mem_of_getElem? (i := 3) rfl)) dX5_loan_1 ?_
  refine lv_iload_n hx hb dX5_loan_4 rfl (lv_at hl 1 rfl) ?_
  obtain ⟨q12, hq12, h⟩ := bd_s h
  cases ho15 : q12.1 with
  | inl r13 =>
    replace h := oCase_l ho15 h
    obtain ⟨hg16, h⟩ := gd_s h
    refine kBS (As := [.int a1]) (rest := []) ⟨hx, hb, hml, hown, hts⟩ Z V (mOr_plain ho15 (c_X4_loanAt (l := l) (D := D) (y := y) (ad := ad) hstk hq12)) (cwV 1 hts gX5_loan_X4_loanAt rfl rfl rfl (by decide +kernel) ⟨Nat.le_of_ble_eq_true rfl, Nat.le_of_ble_eq_true rfl⟩) (by omega) ((mB_0 y ad _ _ (by omega)).trans (mS_T y ad _)) rfl rfl hl.1 rfl (Nat.le_of_ble_eq_true rfl) ⟨Nat.zero_le _, Nat.zero_le _⟩ rfl dX5_loan_5 (fun H locs V => ?_)
    refine lv_astore_n (lv' := [(3, .ref (ad (12 + r13))), (0, .ref (ad 160)), (1, .int a1), (2, .int a2)]) hx hb dX5_loan_8 rfl hl (by decide) rfl (fun ls hl => ?_)
    refine lv_iload_n hx hb dX5_loan_9 rfl (lv_at hl 3 rfl) ?_
    by_cases hd17 : a2.toInt < 0 ∨ 4 < a2.toInt
    · replace h := ite_t hd17 h
      refine lv_tableOut (tgt := 69) hx hb dX5_loan_10 hd17 (by decide) ?_
      obtain rfl := Option.some.inj h
      exact m_throw (text := "what is not 0 to 4") hstk hx hb hown hlk hno Z V (by decide +kernel) (hts _ (List.mem_of_getElem? (i := 1) rfl)) (hts _ (List.mem_of_getElem? (i := 2) rfl)) (List.mem_of_getElem? (i := 15) rfl) (fun w h => hts w ((fun _ h => List.mem_cons_of_mem _ (List.mem_append_left _ (List.mem_append_right _ h))) w h)) (mB_RX5_82) (mG_RX5_78_82) (hl.1.trans hml.symm) dX5_loan_69 dX5_loan_72 dX5_loan_73 dX5_loan_75 dX5_loan_78 (Nat.le_of_ble_eq_true rfl) (Nat.le_of_ble_eq_true rfl) (Nat.le_refl _) (Nat.le_refl _) (Nat.le_refl _) (Nat.le_refl _) rfl
    · replace h := ite_f hd17 h
      by_cases hk22 : a2 = 0
      · replace h := ite_t hk22 h
        refine lv_tableIn (tgt := 44) hx hb dX5_loan_10 (fun q => hd17 (Or.inl q)) (fun q => hd17 (Or.inr q)) (by rw [hk22]; rfl) (by decide) ?_
        refine lv_aload_n hx hb dX5_loan_44 rfl (lv_at hl 0 rfl) ?_
        refine gB_L hx hb hts hown (fun _ h => List.mem_cons_of_mem _ (List.mem_append_left _ (List.mem_append_left _ (List.mem_append_left _ (List.mem_append_right _ h))))) V hg16 0 5 (by decide) rfl (hts _ (List.mem_of_getElem? (i := 4) rfl)) dX5_loan_45 ?_
        obtain rfl := Option.some.inj h
        exact m_iretX hx hb hr hlk V (Nat.zero_le _) (Nat.zero_le _) rfl dX5_loan_48
      · replace h := ite_f hk22 h
        by_cases hk21 : a2 = 1
        · replace h := ite_t hk21 h
          refine lv_tableIn (tgt := 49) hx hb dX5_loan_10 (fun q => hd17 (Or.inl q)) (fun q => hd17 (Or.inr q)) (by rw [hk21]; rfl) (by decide) ?_
          refine lv_aload_n hx hb dX5_loan_49 rfl (lv_at hl 0 rfl) ?_
          refine gB_L hx hb hts hown (fun _ h => List.mem_cons_of_mem _ (List.mem_append_left _ (List.mem_append_left _ (List.mem_append_left _ (List.mem_append_right _ h))))) V hg16 1 6 (by decide) rfl (hts _ (List.mem_of_getElem? (i := 5) rfl)) dX5_loan_50 ?_
          obtain rfl := Option.some.inj h
          exact m_iretX hx hb hr hlk V (Nat.zero_le _) (Nat.zero_le _) rfl dX5_loan_53
        · replace h := ite_f hk21 h
          by_cases hk20 : a2 = 2
          · replace h := ite_t hk20 h
            refine lv_tableIn (tgt := 54) hx hb dX5_loan_10 (fun q => hd17 (Or.inl q)) (fun q => hd17 (Or.inr q)) (by rw [hk20]; rfl) (by decide) ?_
            refine lv_aload_n hx hb dX5_loan_54 rfl (lv_at hl 0 rfl) ?_
            refine gB_L hx hb hts hown (fun _ h => List.mem_cons_of_mem _ (List.mem_append_left _ (List.mem_append_left _ (List.mem_append_left _ (List.mem_append_right _ h))))) V hg16 2 7 (by decide) rfl (hts _ (List.mem_of_getElem? (i := 6) rfl)) dX5_loan_55 ?_
            obtain rfl := Option.some.inj h
            exact m_iretX hx hb hr hlk V (Nat.zero_le _) (Nat.zero_le _) rfl dX5_loan_58
          · replace h := ite_f hk20 h
            by_cases hk19 : a2 = 3
            · replace h := ite_t hk19 h
              refine lv_tableIn (tgt := 59) hx hb dX5_loan_10 (fun q => hd17 (Or.inl q)) (fun q => hd17 (Or.inr q)) (by rw [hk19]; rfl) (by decide) ?_
              refine lv_aload_n hx hb dX5_loan_59 rfl (lv_at hl 0 rfl) ?_
              refine gB_L hx hb hts hown (fun _ h => List.mem_cons_of_mem _ (List.mem_append_left _ (List.mem_append_left _ (List.mem_append_left _ (List.mem_append_right _ h))))) V hg16 3 8 (by decide) rfl (hts _ (List.mem_of_getElem? (i := 7) rfl)) dX5_loan_60 ?_
              obtain rfl := Option.some.inj h
              exact m_iretX hx hb hr hlk V (Nat.zero_le _) (Nat.zero_le _) rfl dX5_loan_63
            · replace h := ite_f hk19 h
              by_cases hk18 : a2 = 4
              · replace h := ite_t hk18 h
                refine lv_tableIn (tgt := 64) hx hb dX5_loan_10 (fun q => hd17 (Or.inl q)) (fun q => hd17 (Or.inr q)) (by rw [hk18]; rfl) (by decide) ?_
                refine lv_aload_n hx hb dX5_loan_64 rfl (lv_at hl 0 rfl) ?_
                refine gB_L hx hb hts hown (fun _ h => List.mem_cons_of_mem _ (List.mem_append_left _ (List.mem_append_left _ (List.mem_append_left _ (List.mem_append_right _ h))))) V hg16 4 9 (by decide) rfl (hts _ (List.mem_of_getElem? (i := 8) rfl)) dX5_loan_65 ?_
                obtain rfl := Option.some.inj h
                exact m_iretX hx hb hr hlk V (Nat.zero_le _) (Nat.zero_le _) rfl dX5_loan_68
              · replace h := ite_f hk18 h
                exact nomatch h
  | inr e14 =>
    replace h := oCase_r ho15 h
    obtain rfl := Option.some.inj h
    refine kBSx (As := [.int a1]) (rest := []) ⟨hx, hb, hml, hown, hts⟩ Z V (mOr_throw ho15 (c_X4_loanAt (l := l) (D := D) (y := y) (ad := ad) hstk hq12)) (cwV 1 hts gX5_loan_X4_loanAt rfl rfl rfl (by decide +kernel) ⟨Nat.le_of_ble_eq_true rfl, Nat.le_of_ble_eq_true rfl⟩) (by omega) ((mB_0 y ad _ _ (by omega)).trans (mS_T y ad _)) rfl rfl hl.1 rfl (Nat.le_of_ble_eq_true rfl) ⟨Nat.le_refl _, Nat.le_refl _⟩ dX5_loan_5 (fun ce q9 H locs V hce hcv hcl => ?_)
    exact m_out hlk hno V rfl hce hcv hcl (Nat.le_refl _) (Nat.le_refl _)
-- X5_begin
def f_X5_begin (N : Nat) (σ τ : mSt) (a1 : Int32) (a2 : Int32) (a3 : Int32) (a4 : Int32) (a5 : Int32) (a6 : Int32) : Option ((Int32 ⊕ String) × mSt × mSt) := (f_X4_playerAt N σ a1).bind fun q30 => oCase q30.1 (fun r31 => if r31 < 8 then (f_X4_playerAt N q30.2 a2).bind fun q35 => oCase q35.1 (fun r36 => if r36 < 8 then if a1 = a2 then some (.inr "java/lang/IllegalArgumentException", q35.2, τ) else (f_X5_isOutside N q35.2 τ a3 1 7200).bind fun q41 => if q41.1 = 0 then (f_X5_isOutside N q41.2.1 q41.2.2 a4 0 30).bind fun q43 => if q43.1 = 0 then (f_X5_isOutside N q43.2.1 q43.2.2 a5 0 30).bind fun q45 => if q45.1 = 0 then (f_X5_isOutside N q45.2.1 q45.2.2 a6 0 10000).bind fun q47 => if q47.1 = 0 then if (q47.2.1 0 r31) < a6 then some (.inr "java/lang/IllegalStateException", q47.2.1, q47.2.2) else if a6 ≤ (q47.2.1 0 r36) then if (q47.2.1 23 0) < 16 then (f_X4_gameAt N (mUp q47.2.1 23 0 ((q47.2.1 23 0) + 1)) (q47.2.1 23 0)).bind fun q52 => oCase q52.1 (fun r53 => if r53 < 16 then (f_X0_sitDown N q52.2 r53 a1 a2 a3).bind fun q57 => (f_X0_start N q57.2 r53 (q47.2.1 23 0) a4 a5 a6).bind fun q58 => some (.inl (q47.2.1 23 0), (mUp (mUp q58.2 0 r31 ((q58.2 0 r31) - a6)) 0 r36 (((mUp q58.2 0 r31 ((q58.2 0 r31) - a6)) 0 r36) - a6)), q47.2.2) else none) (fun e54 => some (.inr e54, q52.2, q47.2.2)) else some (.inr "java/lang/IllegalStateException", q47.2.1, q47.2.2) else some (.inr "java/lang/IllegalStateException", q47.2.1, q47.2.2) else some (.inr "java/lang/IllegalArgumentException", q47.2.1, q47.2.2) else some (.inr "java/lang/IllegalArgumentException", q45.2.1, q45.2.2) else some (.inr "java/lang/IllegalArgumentException", q43.2.1, q43.2.2) else some (.inr "java/lang/IllegalArgumentException", q41.2.1, q41.2.2) else none) (fun e37 => some (.inr e37, q35.2, τ)) else none) (fun e32 => some (.inr e32, q30.2, τ))
set_option maxHeartbeats 4000000 in
set_option maxRecDepth 100000 in
theorem c_X5_begin {l : Launch} {D : va_G} {y : Nat → ClassId} {ad : Nat → Nat} {N : Nat} {σ τ : mSt} {a1 : Int32} {a2 : Int32} {a3 : Int32} {a4 : Int32} {a5 : Int32} {a6 : Int32} {q : (Int32 ⊕ String) × mSt × mSt} (hstk : l.stackTraces = false) (h : f_X5_begin N σ τ a1 a2 a3 a4 a5 a6 = some q) : mCX l yX5_begin wsX5_begin { frames := 7, cells := mOc q.1, slots := mOs q.1, locals := 103 } D y 161 ad mZ (mB y ad σ τ) [.ref (ad 160), .int a1, .int a2, .int a3, .int a4, .int a5, .int a6] (mOi q.1) (mB y ad q.2.1 q.2.2) (mOc q.1) (mOs q.1) := by
  refine m_startX (cc := cX5_begin) (maxL := 11) (ret := (some .int)) (by decide) rfl (Nat.le_of_ble_eq_true rfl) (fun p e s m args below meth c ls hB hno V Z hl => ?_)
  obtain ⟨hx, hb, hml, hown, hts, hr, hlk⟩ := id hB
  have hl : lv_has ls 11 [(0, .ref (ad 160)), (1, .int a1), (2, .int a2), (3, .int a3), (4, .int a4), (5, .int a5), (6, .int a6)] := hl
  rw [f_X5_begin] at h
  refine lv_aload_n hx hb dX5_begin_0 rfl (lv_at hl 0 rfl) ?_
  refine rB_now hx hb hts hown (fun _ h => List.mem_cons_of_mem _ (List.mem_append_left _ (List.mem_append_left _ (List.mem_append_left _ (List.mem_append_left _ (List.mem_append_left _ (List.mem_append_left _ (List.mem_append_left _ (List.mem_append_right _ h))))))))) V (hts _ (List.mem_of_getElem? (i := 5) rfl)) dX5_begin_1 ?_
  refine lv_iload_n hx hb dX5_begin_4 rfl (lv_at hl 1 rfl) ?_
  obtain ⟨q30, hq30, h⟩ := bd_s h
  cases ho33 : q30.1 with
  | inl r31 =>
    replace h := oCase_l ho33 h
    obtain ⟨hg34, h⟩ := gd_s h
    refine kBS (As := [.int a1]) (rest := []) ⟨hx, hb, hml, hown, hts⟩ Z V (mOr_plain ho33 (c_X4_playerAt (l := l) (D := D) (y := y) (ad := ad) hstk hq30)) (cwV 1 hts gX5_begin_X4_playerAt rfl rfl rfl (by decide +kernel) ⟨Nat.le_of_ble_eq_true rfl, Nat.le_of_ble_eq_true rfl⟩) (by omega) ((mB_0 y ad _ _ (by omega)).trans (mS_T y ad _)) rfl rfl hl.1 rfl (Nat.le_of_ble_eq_true rfl) ⟨Nat.zero_le _, Nat.zero_le _⟩ rfl dX5_begin_5 (fun H locs V => ?_)
    refine lv_astore (lv' := [(7, .ref (ad (4 + r31))), (0, .ref (ad 160)), (1, .int a1), (2, .int a2), (3, .int a3), (4, .int a4), (5, .int a5), (6, .int a6)]) hx hb dX5_begin_8 hl (by decide) rfl (fun ls hl => ?_)
    refine lv_aload_n hx hb dX5_begin_10 rfl (lv_at hl 1 rfl) ?_
    refine rB_now hx hb hts hown (fun _ h => List.mem_cons_of_mem _ (List.mem_append_left _ (List.mem_append_left _ (List.mem_append_left _ (List.mem_append_left _ (List.mem_append_left _ (List.mem_append_left _ (List.mem_append_left _ (List.mem_append_right _ h))))))))) V (hts _ (List.mem_of_getElem? (i := 5) rfl)) dX5_begin_11 ?_
    refine lv_iload_n hx hb dX5_begin_14 rfl (lv_at hl 3 rfl) ?_
    obtain ⟨q35, hq35, h⟩ := bd_s h
    cases ho38 : q35.1 with
    | inl r36 =>
      replace h := oCase_l ho38 h
      obtain ⟨hg39, h⟩ := gd_s h
      refine kBS (As := [.int a2]) (rest := []) ⟨hx, hb, hml, hown, hts⟩ Z V (mOr_plain ho38 (c_X4_playerAt (l := l) (D := D) (y := y) (ad := ad) hstk hq35)) (cwV 1 hts gX5_begin_X4_playerAt rfl rfl rfl (by decide +kernel) ⟨Nat.le_of_ble_eq_true rfl, Nat.le_of_ble_eq_true rfl⟩) (by omega) ((mB_0 y ad _ _ (by omega)).trans (mS_T y ad _)) rfl rfl hl.1 rfl (Nat.le_of_ble_eq_true rfl) ⟨Nat.zero_le _, Nat.zero_le _⟩ rfl dX5_begin_15 (fun H locs V => ?_)
      refine lv_astore (lv' := [(8, .ref (ad (4 + r36))), (7, .ref (ad (4 + r31))), (0, .ref (ad 160)), (1, .int a1), (2, .int a2), (3, .int a3), (4, .int a4), (5, .int a5), (6, .int a6)]) hx hb dX5_begin_18 hl (by decide) rfl (fun ls hl => ?_)
      refine lv_iload_n hx hb dX5_begin_20 rfl (lv_at hl 3 rfl) ?_
      refine lv_iload_n hx hb dX5_begin_21 rfl (lv_at hl 4 rfl) ?_
      refine lv_icmp_ne (tgt := 35) hx hb dX5_begin_22 (by decide) (fun hc40 => ?_) (fun hc40 => ?_)
      · replace h := ite_f hc40 h
        refine lv_iload_n hx hb dX5_begin_35 rfl (lv_at hl 5 rfl) ?_
        refine lv_iconst (v := 1) hx hb dX5_begin_36 (by decide) ?_
        refine lv_sipush (v := 7200) hx hb dX5_begin_37 (by decide) ?_
        obtain ⟨q41, hq41, h⟩ := bd_s h
        refine kBBs (As := [.int a3, .int 1, .int 7200]) (rest := []) ⟨hx, hb, hml, hown, hts⟩ Z V (c_X5_isOutside (l := l) (D := D) (y := y) (ad := ad) hstk hq41) (va_cwS 3 hts gX5_begin_X5_isOutside rfl rfl rfl (by decide +kernel) ⟨Nat.le_of_ble_eq_true rfl, Nat.le_of_ble_eq_true rfl⟩) rfl hl.1 rfl (Nat.le_of_ble_eq_true rfl) ⟨Nat.zero_le _, Nat.zero_le _⟩ rfl dX5_begin_40 (fun H locs V => ?_)
        refine lv_if_eq (tgt := 56) hx hb dX5_begin_43 (by decide) (fun hc42 => ?_) (fun hc42 => ?_)
        · replace h := ite_t hc42 h
          refine lv_iload hx hb dX5_begin_56 (lv_at hl 6 rfl) ?_
          refine lv_iconst (v := 0) hx hb dX5_begin_58 (by decide) ?_
          refine lv_bipush (v := 30) hx hb dX5_begin_59 (by decide) ?_
          obtain ⟨q43, hq43, h⟩ := bd_s h
          refine kBBs (As := [.int a4, .int 0, .int 30]) (rest := []) ⟨hx, hb, hml, hown, hts⟩ Z V (c_X5_isOutside (l := l) (D := D) (y := y) (ad := ad) hstk hq43) (va_cwS 3 hts gX5_begin_X5_isOutside rfl rfl rfl (by decide +kernel) ⟨Nat.le_of_ble_eq_true rfl, Nat.le_of_ble_eq_true rfl⟩) rfl hl.1 rfl (Nat.le_of_ble_eq_true rfl) ⟨Nat.zero_le _, Nat.zero_le _⟩ rfl dX5_begin_61 (fun H locs V => ?_)
          refine lv_if_ne (tgt := 78) hx hb dX5_begin_64 (by decide) (fun hc44 => ?_) (fun hc44 => ?_)
          · replace h := ite_f hc44 h
            obtain rfl := Option.some.inj h
            exact m_throw (text := "increment or delay is not 0 to 30") hstk hx hb hown hlk hno Z V (by decide +kernel) (hts _ (List.mem_of_getElem? (i := 1) rfl)) (hts _ (List.mem_of_getElem? (i := 2) rfl)) (List.mem_of_getElem? (i := 18) rfl) (fun w h => hts w ((fun _ h => List.mem_cons_of_mem _ (List.mem_append_left _ (List.mem_append_left _ (List.mem_append_right _ h)))) w h)) (mB_RX5_28) (mG_RX5_24_28) (hl.1.trans hml.symm) dX5_begin_78 dX5_begin_81 dX5_begin_82 dX5_begin_84 dX5_begin_87 (Nat.le_of_ble_eq_true rfl) (Nat.le_of_ble_eq_true rfl) (Nat.le_refl _) (Nat.le_refl _) (Nat.le_refl _) (Nat.le_refl _) rfl
          · replace h := ite_t hc44 h
            refine lv_iload hx hb dX5_begin_67 (lv_at hl 7 rfl) ?_
            refine lv_iconst (v := 0) hx hb dX5_begin_69 (by decide) ?_
            refine lv_bipush (v := 30) hx hb dX5_begin_70 (by decide) ?_
            obtain ⟨q45, hq45, h⟩ := bd_s h
            refine kBBs (As := [.int a5, .int 0, .int 30]) (rest := []) ⟨hx, hb, hml, hown, hts⟩ Z V (c_X5_isOutside (l := l) (D := D) (y := y) (ad := ad) hstk hq45) (va_cwS 3 hts gX5_begin_X5_isOutside rfl rfl rfl (by decide +kernel) ⟨Nat.le_of_ble_eq_true rfl, Nat.le_of_ble_eq_true rfl⟩) rfl hl.1 rfl (Nat.le_of_ble_eq_true rfl) ⟨Nat.zero_le _, Nat.zero_le _⟩ rfl dX5_begin_72 (fun H locs V => ?_)
            refine lv_if_eq (tgt := 88) hx hb dX5_begin_75 (by decide) (fun hc46 => ?_) (fun hc46 => ?_)
            · replace h := ite_t hc46 h
              refine lv_iload hx hb dX5_begin_88 (lv_at hl 8 rfl) ?_
              refine lv_iconst (v := 0) hx hb dX5_begin_90 (by decide) ?_
              refine lv_sipush (v := 10000) hx hb dX5_begin_91 (by decide) ?_
              obtain ⟨q47, hq47, h⟩ := bd_s h
              refine kBBs (As := [.int a6, .int 0, .int 10000]) (rest := []) ⟨hx, hb, hml, hown, hts⟩ Z V (c_X5_isOutside (l := l) (D := D) (y := y) (ad := ad) hstk hq47) (va_cwS 3 hts gX5_begin_X5_isOutside rfl rfl rfl (by decide +kernel) ⟨Nat.le_of_ble_eq_true rfl, Nat.le_of_ble_eq_true rfl⟩) rfl hl.1 rfl (Nat.le_of_ble_eq_true rfl) ⟨Nat.zero_le _, Nat.zero_le _⟩ rfl dX5_begin_94 (fun H locs V => ?_)
              refine lv_if_eq (tgt := 110) hx hb dX5_begin_97 (by decide) (fun hc48 => ?_) (fun hc48 => ?_)
              · replace h := ite_t hc48 h
                refine lv_iload hx hb dX5_begin_110 (lv_at hl 8 rfl) ?_
                refine lv_aload hx hb dX5_begin_112 (lv_at hl 1 rfl) ?_
                refine gB_P hx hb hts hown (fun _ h => List.mem_cons_of_mem _ (List.mem_append_left _ (List.mem_append_left _ (List.mem_append_left _ (List.mem_append_left _ (List.mem_append_left _ (List.mem_append_left _ (List.mem_append_right _ h)))))))) V hg34 0 0 (by decide) rfl (hts _ (List.mem_of_getElem? (i := 6) rfl)) dX5_begin_114 ?_
                refine lv_icmp_gt (tgt := 130) hx hb dX5_begin_117 (by decide) (fun hc49 => ?_) (fun hc49 => ?_)
                · replace h := ite_t hc49 h
                  obtain rfl := Option.some.inj h
                  exact m_throw (text := "one of both does not have the stake") hstk hx hb hown hlk hno Z V (by decide +kernel) (hts _ (List.mem_of_getElem? (i := 3) rfl)) (hts _ (List.mem_of_getElem? (i := 4) rfl)) (List.mem_of_getElem? (i := 20) rfl) (fun w h => hts w ((fun _ h => List.mem_cons_of_mem _ (List.mem_append_left _ (List.mem_append_right _ h))) w h)) (mB_RX5_43) (mG_RX5_39_43) (hl.1.trans hml.symm) dX5_begin_130 dX5_begin_133 dX5_begin_134 dX5_begin_136 dX5_begin_139 (Nat.le_of_ble_eq_true rfl) (Nat.le_of_ble_eq_true rfl) (Nat.le_refl _) (Nat.le_refl _) (Nat.le_refl _) (Nat.le_refl _) rfl
                · replace h := ite_f hc49 h
                  refine lv_iload hx hb dX5_begin_120 (lv_at hl 8 rfl) ?_
                  refine lv_aload hx hb dX5_begin_122 (lv_at hl 0 rfl) ?_
                  refine gB_P hx hb hts hown (fun _ h => List.mem_cons_of_mem _ (List.mem_append_left _ (List.mem_append_left _ (List.mem_append_left _ (List.mem_append_left _ (List.mem_append_left _ (List.mem_append_left _ (List.mem_append_right _ h)))))))) V hg39 0 0 (by decide) rfl (hts _ (List.mem_of_getElem? (i := 6) rfl)) dX5_begin_124 ?_
                  refine lv_icmp_le (tgt := 140) hx hb dX5_begin_127 (by decide) (fun hc50 => ?_) (fun hc50 => ?_)
                  · replace h := ite_t hc50 h
                    refine lv_aload_n hx hb dX5_begin_140 rfl (lv_at hl 2 rfl) ?_
                    refine rB_now hx hb hts hown (fun _ h => List.mem_cons_of_mem _ (List.mem_append_left _ (List.mem_append_left _ (List.mem_append_left _ (List.mem_append_left _ (List.mem_append_left _ (List.mem_append_left _ (List.mem_append_left _ (List.mem_append_right _ h))))))))) V (hts _ (List.mem_of_getElem? (i := 5) rfl)) dX5_begin_141 ?_
                    refine gB_T hx hb hts hown (fun _ h => List.mem_cons_of_mem _ (List.mem_append_left _ (List.mem_append_left _ (List.mem_append_left _ (List.mem_append_left _ (List.mem_append_left _ (List.mem_append_right _ h))))))) V 2 23 (by decide) rfl (hts _ (List.mem_of_getElem? (i := 7) rfl)) dX5_begin_144 ?_
                    refine lv_aload_n hx hb dX5_begin_147 rfl (lv_at hl 2 rfl) ?_
                    refine rB_now hx hb hts hown (fun _ h => List.mem_cons_of_mem _ (List.mem_append_left _ (List.mem_append_left _ (List.mem_append_left _ (List.mem_append_left _ (List.mem_append_left _ (List.mem_append_left _ (List.mem_append_left _ (List.mem_append_right _ h))))))))) V (hts _ (List.mem_of_getElem? (i := 5) rfl)) dX5_begin_148 ?_
                    refine rB_G hx hb hts hown (fun _ h => List.mem_cons_of_mem _ (List.mem_append_left _ (List.mem_append_left _ (List.mem_append_left _ (List.mem_append_left _ (List.mem_append_left _ (List.mem_append_right _ h))))))) V (hts _ (List.mem_of_getElem? (i := 8) rfl)) dX5_begin_151 ?_
                    refine nB_G hx hb V dX5_begin_154 ?_
                    refine lv_icmp_lt (tgt := 168) hx hb dX5_begin_155 (by decide) (fun hc51 => ?_) (fun hc51 => ?_)
                    · replace h := ite_t hc51 h
                      refine lv_aload_n hx hb dX5_begin_168 rfl (lv_at hl 2 rfl) ?_
                      refine rB_now hx hb hts hown (fun _ h => List.mem_cons_of_mem _ (List.mem_append_left _ (List.mem_append_left _ (List.mem_append_left _ (List.mem_append_left _ (List.mem_append_left _ (List.mem_append_left _ (List.mem_append_left _ (List.mem_append_right _ h))))))))) V (hts _ (List.mem_of_getElem? (i := 5) rfl)) dX5_begin_169 ?_
                      refine gB_T hx hb hts hown (fun _ h => List.mem_cons_of_mem _ (List.mem_append_left _ (List.mem_append_left _ (List.mem_append_left _ (List.mem_append_left _ (List.mem_append_left _ (List.mem_append_right _ h))))))) V 2 23 (by decide) rfl (hts _ (List.mem_of_getElem? (i := 7) rfl)) dX5_begin_172 ?_
                      refine lv_istore (lv' := [(9, .int (q47.2.1 23 0)), (8, .ref (ad (4 + r36))), (7, .ref (ad (4 + r31))), (0, .ref (ad 160)), (1, .int a1), (2, .int a2), (3, .int a3), (4, .int a4), (5, .int a5), (6, .int a6)]) hx hb dX5_begin_175 hl (by decide) rfl (fun ls hl => ?_)
                      refine lv_aload_n hx hb dX5_begin_177 rfl (lv_at hl 3 rfl) ?_
                      refine rB_now hx hb hts hown (fun _ h => List.mem_cons_of_mem _ (List.mem_append_left _ (List.mem_append_left _ (List.mem_append_left _ (List.mem_append_left _ (List.mem_append_left _ (List.mem_append_left _ (List.mem_append_left _ (List.mem_append_right _ h))))))))) V (hts _ (List.mem_of_getElem? (i := 5) rfl)) dX5_begin_178 ?_
                      refine lv_dup hx hb dX5_begin_181 rfl ?_
                      refine gB_T hx hb hts hown (fun _ h => List.mem_cons_of_mem _ (List.mem_append_left _ (List.mem_append_left _ (List.mem_append_left _ (List.mem_append_left _ (List.mem_append_left _ (List.mem_append_right _ h))))))) V 2 23 (by decide) rfl (hts _ (List.mem_of_getElem? (i := 7) rfl)) dX5_begin_182 ?_
                      refine lv_iconst (v := 1) hx hb dX5_begin_185 (by decide) ?_
                      refine lv_iadd hx hb dX5_begin_186 ?_
                      refine pB_T hx hb hts hown (fun _ h => List.mem_cons_of_mem _ (List.mem_append_left _ (List.mem_append_left _ (List.mem_append_left _ (List.mem_append_left _ (List.mem_append_left _ (List.mem_append_right _ h))))))) V 2 23 (by decide) rfl (hts _ (List.mem_of_getElem? (i := 7) rfl)) dX5_begin_187 (fun H locs V => ?_)
                      refine lv_aload_n hx hb dX5_begin_190 rfl (lv_at hl 3 rfl) ?_
                      refine rB_now hx hb hts hown (fun _ h => List.mem_cons_of_mem _ (List.mem_append_left _ (List.mem_append_left _ (List.mem_append_left _ (List.mem_append_left _ (List.mem_append_left _ (List.mem_append_left _ (List.mem_append_left _ (List.mem_append_right _ h))))))))) V (hts _ (List.mem_of_getElem? (i := 5) rfl)) dX5_begin_191 ?_
                      refine lv_iload hx hb dX5_begin_194 (lv_at hl 0 rfl) ?_
                      obtain ⟨q52, hq52, h⟩ := bd_s h
                      cases ho55 : q52.1 with
                      | inl r53 =>
                        replace h := oCase_l ho55 h
                        obtain ⟨hg56, h⟩ := gd_s h
                        refine kBS (As := [.int (q47.2.1 23 0)]) (rest := []) ⟨hx, hb, hml, hown, hts⟩ Z V (mOr_plain ho55 (c_X4_gameAt (l := l) (D := D) (y := y) (ad := ad) hstk hq52)) (cwV 1 hts gX5_begin_X4_gameAt rfl rfl rfl (by decide +kernel) ⟨Nat.le_of_ble_eq_true rfl, Nat.le_of_ble_eq_true rfl⟩) (by omega) ((mB_0 y ad _ _ (by omega)).trans (mS_T y ad _)) rfl rfl hl.1 rfl (Nat.le_of_ble_eq_true rfl) ⟨Nat.zero_le _, Nat.zero_le _⟩ rfl dX5_begin_196 (fun H locs V => ?_)
                        refine lv_astore (lv' := [(10, .ref (ad (32 + r53))), (9, .int (q47.2.1 23 0)), (8, .ref (ad (4 + r36))), (7, .ref (ad (4 + r31))), (0, .ref (ad 160)), (1, .int a1), (2, .int a2), (3, .int a3), (4, .int a4), (5, .int a5), (6, .int a6)]) hx hb dX5_begin_199 hl (by decide) rfl (fun ls hl => ?_)
                        refine lv_aload hx hb dX5_begin_201 (lv_at hl 0 rfl) ?_
                        refine lv_iload_n hx hb dX5_begin_203 rfl (lv_at hl 5 rfl) ?_
                        refine lv_iload_n hx hb dX5_begin_204 rfl (lv_at hl 6 rfl) ?_
                        refine lv_iload_n hx hb dX5_begin_205 rfl (lv_at hl 7 rfl) ?_
                        obtain ⟨q57, hq57, h⟩ := bd_s h
                        refine kBS (As := [.int a1, .int a2, .int a3]) (rest := []) ⟨hx, hb, hml, hown, hts⟩ Z V (c_X0_sitDown (l := l) (D := D) (y := y) (ad := ad) hstk hq57) (cwV 3 hts gX5_begin_X0_sitDown rfl rfl rfl (by decide +kernel) ⟨Nat.le_of_ble_eq_true rfl, Nat.le_of_ble_eq_true rfl⟩) (by omega) ((mB_0 y ad _ _ (by omega)).trans (mS_G y ad _ hg56)) rfl rfl hl.1 rfl (Nat.le_of_ble_eq_true rfl) ⟨Nat.zero_le _, Nat.zero_le _⟩ rfl dX5_begin_206 (fun H locs V => ?_)
                        refine lv_aload hx hb dX5_begin_209 (lv_at hl 0 rfl) ?_
                        refine lv_iload hx hb dX5_begin_211 (lv_at hl 1 rfl) ?_
                        refine lv_iload hx hb dX5_begin_213 (lv_at hl 8 rfl) ?_
                        refine lv_iload hx hb dX5_begin_215 (lv_at hl 9 rfl) ?_
                        refine lv_iload hx hb dX5_begin_217 (lv_at hl 10 rfl) ?_
                        obtain ⟨q58, hq58, h⟩ := bd_s h
                        refine kBS (As := [.int (q47.2.1 23 0), .int a4, .int a5, .int a6]) (rest := []) ⟨hx, hb, hml, hown, hts⟩ Z V (c_X0_start (l := l) (D := D) (y := y) (ad := ad) hstk hq58) (cwV 4 hts gX5_begin_X0_start rfl rfl rfl (by decide +kernel) ⟨Nat.le_of_ble_eq_true rfl, Nat.le_of_ble_eq_true rfl⟩) (by omega) ((mB_0 y ad _ _ (by omega)).trans (mS_G y ad _ hg56)) rfl rfl hl.1 rfl (Nat.le_of_ble_eq_true rfl) ⟨Nat.zero_le _, Nat.zero_le _⟩ rfl dX5_begin_219 (fun H locs V => ?_)
                        refine lv_aload hx hb dX5_begin_222 (lv_at hl 3 rfl) ?_
                        refine lv_dup hx hb dX5_begin_224 rfl ?_
                        refine gB_P hx hb hts hown (fun _ h => List.mem_cons_of_mem _ (List.mem_append_left _ (List.mem_append_left _ (List.mem_append_left _ (List.mem_append_left _ (List.mem_append_left _ (List.mem_append_left _ (List.mem_append_right _ h)))))))) V hg34 0 0 (by decide) rfl (hts _ (List.mem_of_getElem? (i := 6) rfl)) dX5_begin_225 ?_
                        refine lv_iload hx hb dX5_begin_228 (lv_at hl 10 rfl) ?_
                        refine lv_isub hx hb dX5_begin_230 ?_
                        refine pB_P hx hb hts hown (fun _ h => List.mem_cons_of_mem _ (List.mem_append_left _ (List.mem_append_left _ (List.mem_append_left _ (List.mem_append_left _ (List.mem_append_left _ (List.mem_append_left _ (List.mem_append_right _ h)))))))) V hg34 0 0 (by decide) rfl (hts _ (List.mem_of_getElem? (i := 6) rfl)) dX5_begin_231 (fun H locs V => ?_)
                        refine lv_aload hx hb dX5_begin_234 (lv_at hl 2 rfl) ?_
                        refine lv_dup hx hb dX5_begin_236 rfl ?_
                        refine gB_P hx hb hts hown (fun _ h => List.mem_cons_of_mem _ (List.mem_append_left _ (List.mem_append_left _ (List.mem_append_left _ (List.mem_append_left _ (List.mem_append_left _ (List.mem_append_left _ (List.mem_append_right _ h)))))))) V hg39 0 0 (by decide) rfl (hts _ (List.mem_of_getElem? (i := 6) rfl)) dX5_begin_237 ?_
                        refine lv_iload hx hb dX5_begin_240 (lv_at hl 10 rfl) ?_
                        refine lv_isub hx hb dX5_begin_242 ?_
                        refine pB_P hx hb hts hown (fun _ h => List.mem_cons_of_mem _ (List.mem_append_left _ (List.mem_append_left _ (List.mem_append_left _ (List.mem_append_left _ (List.mem_append_left _ (List.mem_append_left _ (List.mem_append_right _ h)))))))) V hg39 0 0 (by decide) rfl (hts _ (List.mem_of_getElem? (i := 6) rfl)) dX5_begin_243 (fun H locs V => ?_)
                        refine lv_iload hx hb dX5_begin_246 (lv_at hl 1 rfl) ?_
                        obtain rfl := Option.some.inj h
                        exact m_iretX hx hb hr hlk V (Nat.zero_le _) (Nat.zero_le _) rfl dX5_begin_248
                      | inr e54 =>
                        replace h := oCase_r ho55 h
                        obtain rfl := Option.some.inj h
                        refine kBSx (As := [.int (q47.2.1 23 0)]) (rest := []) ⟨hx, hb, hml, hown, hts⟩ Z V (mOr_throw ho55 (c_X4_gameAt (l := l) (D := D) (y := y) (ad := ad) hstk hq52)) (cwV 1 hts gX5_begin_X4_gameAt rfl rfl rfl (by decide +kernel) ⟨Nat.le_of_ble_eq_true rfl, Nat.le_of_ble_eq_true rfl⟩) (by omega) ((mB_0 y ad _ _ (by omega)).trans (mS_T y ad _)) rfl rfl hl.1 rfl (Nat.le_of_ble_eq_true rfl) ⟨Nat.le_refl _, Nat.le_refl _⟩ dX5_begin_196 (fun ce q9 H locs V hce hcv hcl => ?_)
                        exact m_out hlk hno V rfl hce hcv hcl (Nat.le_refl _) (Nat.le_refl _)
                    · replace h := ite_f hc51 h
                      obtain rfl := Option.some.inj h
                      exact m_throw (text := "there are 16 games") hstk hx hb hown hlk hno Z V (by decide +kernel) (hts _ (List.mem_of_getElem? (i := 3) rfl)) (hts _ (List.mem_of_getElem? (i := 4) rfl)) (List.mem_of_getElem? (i := 21) rfl) (fun w h => hts w ((fun _ h => List.mem_cons_of_mem _ (List.mem_append_left _ (List.mem_append_right _ h))) w h)) (mB_RX5_43) (mG_RX5_39_43) (hl.1.trans hml.symm) dX5_begin_158 dX5_begin_161 dX5_begin_162 dX5_begin_164 dX5_begin_167 (Nat.le_of_ble_eq_true rfl) (Nat.le_of_ble_eq_true rfl) (Nat.le_refl _) (Nat.le_refl _) (Nat.le_refl _) (Nat.le_refl _) rfl
                  · replace h := ite_f hc50 h
                    obtain rfl := Option.some.inj h
                    exact m_throw (text := "one of both does not have the stake") hstk hx hb hown hlk hno Z V (by decide +kernel) (hts _ (List.mem_of_getElem? (i := 3) rfl)) (hts _ (List.mem_of_getElem? (i := 4) rfl)) (List.mem_of_getElem? (i := 20) rfl) (fun w h => hts w ((fun _ h => List.mem_cons_of_mem _ (List.mem_append_left _ (List.mem_append_right _ h))) w h)) (mB_RX5_43) (mG_RX5_39_43) (hl.1.trans hml.symm) dX5_begin_130 dX5_begin_133 dX5_begin_134 dX5_begin_136 dX5_begin_139 (Nat.le_of_ble_eq_true rfl) (Nat.le_of_ble_eq_true rfl) (Nat.le_refl _) (Nat.le_refl _) (Nat.le_refl _) (Nat.le_refl _) rfl
              · replace h := ite_f hc48 h
                obtain rfl := Option.some.inj h
                exact m_throw (text := "stake is not 0 to 10000") hstk hx hb hown hlk hno Z V (by decide +kernel) (hts _ (List.mem_of_getElem? (i := 1) rfl)) (hts _ (List.mem_of_getElem? (i := 2) rfl)) (List.mem_of_getElem? (i := 19) rfl) (fun w h => hts w ((fun _ h => List.mem_cons_of_mem _ (List.mem_append_left _ (List.mem_append_left _ (List.mem_append_right _ h)))) w h)) (mB_RX5_28) (mG_RX5_24_28) (hl.1.trans hml.symm) dX5_begin_100 dX5_begin_103 dX5_begin_104 dX5_begin_106 dX5_begin_109 (Nat.le_of_ble_eq_true rfl) (Nat.le_of_ble_eq_true rfl) (Nat.le_refl _) (Nat.le_refl _) (Nat.le_refl _) (Nat.le_refl _) rfl
            · replace h := ite_f hc46 h
              obtain rfl := Option.some.inj h
              exact m_throw (text := "increment or delay is not 0 to 30") hstk hx hb hown hlk hno Z V (by decide +kernel) (hts _ (List.mem_of_getElem? (i := 1) rfl)) (hts _ (List.mem_of_getElem? (i := 2) rfl)) (List.mem_of_getElem? (i := 18) rfl) (fun w h => hts w ((fun _ h => List.mem_cons_of_mem _ (List.mem_append_left _ (List.mem_append_left _ (List.mem_append_right _ h)))) w h)) (mB_RX5_28) (mG_RX5_24_28) (hl.1.trans hml.symm) dX5_begin_78 dX5_begin_81 dX5_begin_82 dX5_begin_84 dX5_begin_87 (Nat.le_of_ble_eq_true rfl) (Nat.le_of_ble_eq_true rfl) (Nat.le_refl _) (Nat.le_refl _) (Nat.le_refl _) (Nat.le_refl _) rfl
        · replace h := ite_f hc42 h
          obtain rfl := Option.some.inj h
          exact m_throw (text := "seconds is not 1 to 7200") hstk hx hb hown hlk hno Z V (by decide +kernel) (hts _ (List.mem_of_getElem? (i := 1) rfl)) (hts _ (List.mem_of_getElem? (i := 2) rfl)) (List.mem_of_getElem? (i := 17) rfl) (fun w h => hts w ((fun _ h => List.mem_cons_of_mem _ (List.mem_append_left _ (List.mem_append_left _ (List.mem_append_right _ h)))) w h)) (mB_RX5_28) (mG_RX5_24_28) (hl.1.trans hml.symm) dX5_begin_46 dX5_begin_49 dX5_begin_50 dX5_begin_52 dX5_begin_55 (Nat.le_of_ble_eq_true rfl) (Nat.le_of_ble_eq_true rfl) (Nat.le_refl _) (Nat.le_refl _) (Nat.le_refl _) (Nat.le_refl _) rfl
      · replace h := ite_t hc40 h
        obtain rfl := Option.some.inj h
        exact m_throw (text := "both players are the same") hstk hx hb hown hlk hno Z V (by decide +kernel) (hts _ (List.mem_of_getElem? (i := 1) rfl)) (hts _ (List.mem_of_getElem? (i := 2) rfl)) (List.mem_of_getElem? (i := 16) rfl) (fun w h => hts w ((fun _ h => List.mem_cons_of_mem _ (List.mem_append_left _ (List.mem_append_left _ (List.mem_append_right _ h)))) w h)) (mB_RX5_28) (mG_RX5_24_28) (hl.1.trans hml.symm) dX5_begin_25 dX5_begin_28 dX5_begin_29 dX5_begin_31 dX5_begin_34 (Nat.le_of_ble_eq_true rfl) (Nat.le_of_ble_eq_true rfl) (Nat.le_refl _) (Nat.le_refl _) (Nat.le_refl _) (Nat.le_refl _) rfl
    | inr e37 =>
      replace h := oCase_r ho38 h
      obtain rfl := Option.some.inj h
      refine kBSx (As := [.int a2]) (rest := []) ⟨hx, hb, hml, hown, hts⟩ Z V (mOr_throw ho38 (c_X4_playerAt (l := l) (D := D) (y := y) (ad := ad) hstk hq35)) (cwV 1 hts gX5_begin_X4_playerAt rfl rfl rfl (by decide +kernel) ⟨Nat.le_of_ble_eq_true rfl, Nat.le_of_ble_eq_true rfl⟩) (by omega) ((mB_0 y ad _ _ (by omega)).trans (mS_T y ad _)) rfl rfl hl.1 rfl (Nat.le_of_ble_eq_true rfl) ⟨Nat.le_refl _, Nat.le_refl _⟩ dX5_begin_15 (fun ce q9 H locs V hce hcv hcl => ?_)
      exact m_out hlk hno V rfl hce hcv hcl (Nat.le_refl _) (Nat.le_refl _)
  | inr e32 =>
    replace h := oCase_r ho33 h
    obtain rfl := Option.some.inj h
    refine kBSx (As := [.int a1]) (rest := []) ⟨hx, hb, hml, hown, hts⟩ Z V (mOr_throw ho33 (c_X4_playerAt (l := l) (D := D) (y := y) (ad := ad) hstk hq30)) (cwV 1 hts gX5_begin_X4_playerAt rfl rfl rfl (by decide +kernel) ⟨Nat.le_of_ble_eq_true rfl, Nat.le_of_ble_eq_true rfl⟩) (by omega) ((mB_0 y ad _ _ (by omega)).trans (mS_T y ad _)) rfl rfl hl.1 rfl (Nat.le_of_ble_eq_true rfl) ⟨Nat.le_refl _, Nat.le_refl _⟩ dX5_begin_5 (fun ce q9 H locs V hce hcv hcl => ?_)
    exact m_out hlk hno V rfl hce hcv hcl (Nat.le_refl _) (Nat.le_refl _)
-- X5_press
def f_X5_press (N : Nat) (σ τ : mSt) (a1 : Int32) : Option ((Int32 ⊕ String) × mSt × mSt) := (f_X4_gameAt N σ a1).bind fun q9 => oCase q9.1 (fun r10 => if r10 < 16 then (f_X0_runs N q9.2 r10).bind fun q14 => if q14.1 = 0 then some (.inr "java/lang/IllegalStateException", q14.2, τ) else (f_X0_move N q14.2 r10).bind fun q16 => some (.inl (q16.2 15 r10), q16.2, τ) else none) (fun e11 => some (.inr e11, q9.2, τ))
set_option maxHeartbeats 4000000 in
set_option maxRecDepth 100000 in
theorem c_X5_press {l : Launch} {D : va_G} {y : Nat → ClassId} {ad : Nat → Nat} {N : Nat} {σ τ : mSt} {a1 : Int32} {q : (Int32 ⊕ String) × mSt × mSt} (hstk : l.stackTraces = false) (h : f_X5_press N σ τ a1 = some q) : mCX l yX5_press wsX5_press { frames := 7, cells := mOc q.1, slots := mOs q.1, locals := 103 } D y 161 ad mZ (mB y ad σ τ) [.ref (ad 160), .int a1] (mOi q.1) (mB y ad q.2.1 q.2.2) (mOc q.1) (mOs q.1) := by
  refine m_startX (cc := cX5_press) (maxL := 3) (ret := (some .int)) (by decide) rfl (Nat.le_of_ble_eq_true rfl) (fun p e s m args below meth c ls hB hno V Z hl => ?_)
  obtain ⟨hx, hb, hml, hown, hts, hr, hlk⟩ := id hB
  have hl : lv_has ls 3 [(0, .ref (ad 160)), (1, .int a1)] := hl
  rw [f_X5_press] at h
  refine lv_aload_n hx hb dX5_press_0 rfl (lv_at hl 0 rfl) ?_
  refine rB_now hx hb hts hown (fun _ h => List.mem_cons_of_mem _ (List.mem_append_left _ (List.mem_append_left _ (List.mem_append_left _ (List.mem_append_left _ (List.mem_append_left _ (List.mem_append_right _ h))))))) V (hts _ (List.mem_of_getElem? (i := 3) rfl)) dX5_press_1 ?_
  refine lv_iload_n hx hb dX5_press_4 rfl (lv_at hl 1 rfl) ?_
  obtain ⟨q9, hq9, h⟩ := bd_s h
  cases ho12 : q9.1 with
  | inl r10 =>
    replace h := oCase_l ho12 h
    obtain ⟨hg13, h⟩ := gd_s h
    refine kBS (As := [.int a1]) (rest := []) ⟨hx, hb, hml, hown, hts⟩ Z V (mOr_plain ho12 (c_X4_gameAt (l := l) (D := D) (y := y) (ad := ad) hstk hq9)) (cwV 1 hts gX5_press_X4_gameAt rfl rfl rfl (by decide +kernel) ⟨Nat.le_of_ble_eq_true rfl, Nat.le_of_ble_eq_true rfl⟩) (by omega) ((mB_0 y ad _ _ (by omega)).trans (mS_T y ad _)) rfl rfl hl.1 rfl (Nat.le_of_ble_eq_true rfl) ⟨Nat.zero_le _, Nat.zero_le _⟩ rfl dX5_press_5 (fun H locs V => ?_)
    refine lv_astore_n (lv' := [(2, .ref (ad (32 + r10))), (0, .ref (ad 160)), (1, .int a1)]) hx hb dX5_press_8 rfl hl (by decide) rfl (fun ls hl => ?_)
    refine lv_aload_n hx hb dX5_press_9 rfl (lv_at hl 0 rfl) ?_
    obtain ⟨q14, hq14, h⟩ := bd_s h
    refine kBS (As := []) (rest := []) ⟨hx, hb, hml, hown, hts⟩ Z V (c_X0_runs (l := l) (D := D) (y := y) (ad := ad) hstk hq14) (cwV 0 hts gX5_press_X0_runs rfl rfl rfl (by decide +kernel) ⟨Nat.le_of_ble_eq_true rfl, Nat.le_of_ble_eq_true rfl⟩) (by omega) ((mB_0 y ad _ _ (by omega)).trans (mS_G y ad _ hg13)) rfl rfl hl.1 rfl (Nat.le_of_ble_eq_true rfl) ⟨Nat.zero_le _, Nat.zero_le _⟩ rfl dX5_press_10 (fun H locs V => ?_)
    refine lv_if_ne (tgt := 26) hx hb dX5_press_13 (by decide) (fun hc15 => ?_) (fun hc15 => ?_)
    · replace h := ite_f hc15 h
      refine lv_aload_n hx hb dX5_press_26 rfl (lv_at hl 0 rfl) ?_
      obtain ⟨q16, hq16, h⟩ := bd_s h
      refine kBS (As := []) (rest := []) ⟨hx, hb, hml, hown, hts⟩ Z V (c_X0_move (l := l) (D := D) (y := y) (ad := ad) hstk hq16) (cwV 0 hts gX5_press_X0_move rfl rfl rfl (by decide +kernel) ⟨Nat.le_of_ble_eq_true rfl, Nat.le_of_ble_eq_true rfl⟩) (by omega) ((mB_0 y ad _ _ (by omega)).trans (mS_G y ad _ hg13)) rfl rfl hl.1 rfl (Nat.le_of_ble_eq_true rfl) ⟨Nat.zero_le _, Nat.zero_le _⟩ rfl dX5_press_27 (fun H locs V => ?_)
      refine lv_aload_n hx hb dX5_press_30 rfl (lv_at hl 0 rfl) ?_
      refine gB_G hx hb hts hown (fun _ h => List.mem_cons_of_mem _ (List.mem_append_left _ (List.mem_append_left _ (List.mem_append_left _ (List.mem_append_left _ (List.mem_append_right _ h)))))) V hg13 5 15 (by decide) rfl (hts _ (List.mem_of_getElem? (i := 4) rfl)) dX5_press_31 ?_
      obtain rfl := Option.some.inj h
      exact m_iretX hx hb hr hlk V (Nat.zero_le _) (Nat.zero_le _) rfl dX5_press_34
    · replace h := ite_t hc15 h
      obtain rfl := Option.some.inj h
      exact m_throw (text := "the game has ended") hstk hx hb hown hlk hno Z V (by decide +kernel) (hts _ (List.mem_of_getElem? (i := 1) rfl)) (hts _ (List.mem_of_getElem? (i := 2) rfl)) (List.mem_of_getElem? (i := 22) rfl) (fun w h => hts w ((fun _ h => List.mem_cons_of_mem _ (List.mem_append_left _ (List.mem_append_right _ h))) w h)) (mB_RX5_43) (mG_RX5_39_43) (hl.1.trans hml.symm) dX5_press_16 dX5_press_19 dX5_press_20 dX5_press_22 dX5_press_25 (Nat.le_of_ble_eq_true rfl) (Nat.le_of_ble_eq_true rfl) (Nat.le_refl _) (Nat.le_refl _) (Nat.le_refl _) (Nat.le_refl _) rfl
  | inr e11 =>
    replace h := oCase_r ho12 h
    obtain rfl := Option.some.inj h
    refine kBSx (As := [.int a1]) (rest := []) ⟨hx, hb, hml, hown, hts⟩ Z V (mOr_throw ho12 (c_X4_gameAt (l := l) (D := D) (y := y) (ad := ad) hstk hq9)) (cwV 1 hts gX5_press_X4_gameAt rfl rfl rfl (by decide +kernel) ⟨Nat.le_of_ble_eq_true rfl, Nat.le_of_ble_eq_true rfl⟩) (by omega) ((mB_0 y ad _ _ (by omega)).trans (mS_T y ad _)) rfl rfl hl.1 rfl (Nat.le_of_ble_eq_true rfl) ⟨Nat.le_refl _, Nat.le_refl _⟩ dX5_press_5 (fun ce q9 H locs V hce hcv hcl => ?_)
    exact m_out hlk hno V rfl hce hcv hcl (Nat.le_refl _) (Nat.le_refl _)
-- X5_put
def f_X5_put (N : Nat) (σ τ : mSt) (a1 : Int32) (a2 : Int32) (a3 : Int32) : Option ((Int32 ⊕ String) × mSt × mSt) := (f_X4_gameAt N σ a1).bind fun q20 => oCase q20.1 (fun r21 => if r21 < 16 then (f_X5_isOutside N q20.2 τ a2 0 1).bind fun q25 => if q25.1 = 0 then (f_X5_isOutside N q25.2.1 q25.2.2 a3 1 3600).bind fun q27 => if q27.1 = 0 then (f_X0_runs N q27.2.1 r21).bind fun q29 => if q29.1 = 0 then some (.inr "java/lang/IllegalStateException", q29.2, q27.2.2) else (f_X0_sideAt N q29.2 r21 a2).bind fun q31 => if q31.1 < 32 then (f_X4_playerAt N q31.2 (q31.2 18 q31.1)).bind fun q33 => oCase q33.1 (fun r34 => if r34 < 8 then if a3 ≤ (q33.2 1 r34) then some (.inl ((mUp (mUp q33.2 1 r34 ((q33.2 1 r34) - a3)) 19 q31.1 (((mUp q33.2 1 r34 ((q33.2 1 r34) - a3)) 19 q31.1) + a3)) 19 q31.1), (mUp (mUp q33.2 1 r34 ((q33.2 1 r34) - a3)) 19 q31.1 (((mUp q33.2 1 r34 ((q33.2 1 r34) - a3)) 19 q31.1) + a3)), q27.2.2) else some (.inr "java/lang/IllegalStateException", q33.2, q27.2.2) else none) (fun e35 => some (.inr e35, q33.2, q27.2.2)) else none else some (.inr "java/lang/IllegalArgumentException", q27.2.1, q27.2.2) else some (.inr "java/lang/IllegalArgumentException", q25.2.1, q25.2.2) else none) (fun e22 => some (.inr e22, q20.2, τ))
set_option maxHeartbeats 4000000 in
set_option maxRecDepth 100000 in
theorem c_X5_put {l : Launch} {D : va_G} {y : Nat → ClassId} {ad : Nat → Nat} {N : Nat} {σ τ : mSt} {a1 : Int32} {a2 : Int32} {a3 : Int32} {q : (Int32 ⊕ String) × mSt × mSt} (hstk : l.stackTraces = false) (h : f_X5_put N σ τ a1 a2 a3 = some q) : mCX l yX5_put wsX5_put { frames := 7, cells := mOc q.1, slots := mOs q.1, locals := 103 } D y 161 ad mZ (mB y ad σ τ) [.ref (ad 160), .int a1, .int a2, .int a3] (mOi q.1) (mB y ad q.2.1 q.2.2) (mOc q.1) (mOs q.1) := by
  refine m_startX (cc := cX5_put) (maxL := 7) (ret := (some .int)) (by decide) rfl (Nat.le_of_ble_eq_true rfl) (fun p e s m args below meth c ls hB hno V Z hl => ?_)
  obtain ⟨hx, hb, hml, hown, hts, hr, hlk⟩ := id hB
  have hl : lv_has ls 7 [(0, .ref (ad 160)), (1, .int a1), (2, .int a2), (3, .int a3)] := hl
  rw [f_X5_put] at h
  refine lv_aload_n hx hb dX5_put_0 rfl (lv_at hl 0 rfl) ?_
  refine rB_now hx hb hts hown (fun _ h => List.mem_cons_of_mem _ (List.mem_append_left _ (List.mem_append_left _ (List.mem_append_left _ (List.mem_append_left _ (List.mem_append_left _ (List.mem_append_left _ (List.mem_append_left _ (List.mem_append_right _ h))))))))) V (hts _ (List.mem_of_getElem? (i := 5) rfl)) dX5_put_1 ?_
  refine lv_iload_n hx hb dX5_put_4 rfl (lv_at hl 1 rfl) ?_
  obtain ⟨q20, hq20, h⟩ := bd_s h
  cases ho23 : q20.1 with
  | inl r21 =>
    replace h := oCase_l ho23 h
    obtain ⟨hg24, h⟩ := gd_s h
    refine kBS (As := [.int a1]) (rest := []) ⟨hx, hb, hml, hown, hts⟩ Z V (mOr_plain ho23 (c_X4_gameAt (l := l) (D := D) (y := y) (ad := ad) hstk hq20)) (cwV 1 hts gX5_put_X4_gameAt rfl rfl rfl (by decide +kernel) ⟨Nat.le_of_ble_eq_true rfl, Nat.le_of_ble_eq_true rfl⟩) (by omega) ((mB_0 y ad _ _ (by omega)).trans (mS_T y ad _)) rfl rfl hl.1 rfl (Nat.le_of_ble_eq_true rfl) ⟨Nat.zero_le _, Nat.zero_le _⟩ rfl dX5_put_5 (fun H locs V => ?_)
    refine lv_astore (lv' := [(4, .ref (ad (32 + r21))), (0, .ref (ad 160)), (1, .int a1), (2, .int a2), (3, .int a3)]) hx hb dX5_put_8 hl (by decide) rfl (fun ls hl => ?_)
    refine lv_iload_n hx hb dX5_put_10 rfl (lv_at hl 3 rfl) ?_
    refine lv_iconst (v := 0) hx hb dX5_put_11 (by decide) ?_
    refine lv_iconst (v := 1) hx hb dX5_put_12 (by decide) ?_
    obtain ⟨q25, hq25, h⟩ := bd_s h
    refine kBBs (As := [.int a2, .int 0, .int 1]) (rest := []) ⟨hx, hb, hml, hown, hts⟩ Z V (c_X5_isOutside (l := l) (D := D) (y := y) (ad := ad) hstk hq25) (va_cwS 3 hts gX5_put_X5_isOutside rfl rfl rfl (by decide +kernel) ⟨Nat.le_of_ble_eq_true rfl, Nat.le_of_ble_eq_true rfl⟩) rfl hl.1 rfl (Nat.le_of_ble_eq_true rfl) ⟨Nat.zero_le _, Nat.zero_le _⟩ rfl dX5_put_13 (fun H locs V => ?_)
    refine lv_if_eq (tgt := 29) hx hb dX5_put_16 (by decide) (fun hc26 => ?_) (fun hc26 => ?_)
    · replace h := ite_t hc26 h
      refine lv_iload_n hx hb dX5_put_29 rfl (lv_at hl 4 rfl) ?_
      refine lv_iconst (v := 1) hx hb dX5_put_30 (by decide) ?_
      refine lv_sipush (v := 3600) hx hb dX5_put_31 (by decide) ?_
      obtain ⟨q27, hq27, h⟩ := bd_s h
      refine kBBs (As := [.int a3, .int 1, .int 3600]) (rest := []) ⟨hx, hb, hml, hown, hts⟩ Z V (c_X5_isOutside (l := l) (D := D) (y := y) (ad := ad) hstk hq27) (va_cwS 3 hts gX5_put_X5_isOutside rfl rfl rfl (by decide +kernel) ⟨Nat.le_of_ble_eq_true rfl, Nat.le_of_ble_eq_true rfl⟩) rfl hl.1 rfl (Nat.le_of_ble_eq_true rfl) ⟨Nat.zero_le _, Nat.zero_le _⟩ rfl dX5_put_34 (fun H locs V => ?_)
      refine lv_if_eq (tgt := 50) hx hb dX5_put_37 (by decide) (fun hc28 => ?_) (fun hc28 => ?_)
      · replace h := ite_t hc28 h
        refine lv_aload hx hb dX5_put_50 (lv_at hl 0 rfl) ?_
        obtain ⟨q29, hq29, h⟩ := bd_s h
        refine kBS (As := []) (rest := []) ⟨hx, hb, hml, hown, hts⟩ Z V (c_X0_runs (l := l) (D := D) (y := y) (ad := ad) hstk hq29) (cwV 0 hts gX5_put_X0_runs rfl rfl rfl (by decide +kernel) ⟨Nat.le_of_ble_eq_true rfl, Nat.le_of_ble_eq_true rfl⟩) (by omega) ((mB_0 y ad _ _ (by omega)).trans (mS_G y ad _ hg24)) rfl rfl hl.1 rfl (Nat.le_of_ble_eq_true rfl) ⟨Nat.zero_le _, Nat.zero_le _⟩ rfl dX5_put_52 (fun H locs V => ?_)
        refine lv_if_ne (tgt := 68) hx hb dX5_put_55 (by decide) (fun hc30 => ?_) (fun hc30 => ?_)
        · replace h := ite_f hc30 h
          refine lv_aload hx hb dX5_put_68 (lv_at hl 0 rfl) ?_
          refine lv_iload_n hx hb dX5_put_70 rfl (lv_at hl 3 rfl) ?_
          obtain ⟨q31, hq31, h⟩ := bd_s h
          obtain ⟨hg32, h⟩ := gd_s h
          refine kBS (As := [.int a2]) (rest := []) ⟨hx, hb, hml, hown, hts⟩ Z V (c_X0_sideAt (l := l) (D := D) (y := y) (ad := ad) hstk hq31) (cwV 1 hts gX5_put_X0_sideAt rfl rfl rfl (by decide +kernel) ⟨Nat.le_of_ble_eq_true rfl, Nat.le_of_ble_eq_true rfl⟩) (by omega) ((mB_0 y ad _ _ (by omega)).trans (mS_G y ad _ hg24)) rfl rfl hl.1 rfl (Nat.le_of_ble_eq_true rfl) ⟨Nat.zero_le _, Nat.zero_le _⟩ rfl dX5_put_71 (fun H locs V => ?_)
          refine lv_astore (lv' := [(5, .ref (ad (48 + q31.1))), (4, .ref (ad (32 + r21))), (0, .ref (ad 160)), (1, .int a1), (2, .int a2), (3, .int a3)]) hx hb dX5_put_74 hl (by decide) rfl (fun ls hl => ?_)
          refine lv_aload_n hx hb dX5_put_76 rfl (lv_at hl 2 rfl) ?_
          refine rB_now hx hb hts hown (fun _ h => List.mem_cons_of_mem _ (List.mem_append_left _ (List.mem_append_left _ (List.mem_append_left _ (List.mem_append_left _ (List.mem_append_left _ (List.mem_append_left _ (List.mem_append_left _ (List.mem_append_right _ h))))))))) V (hts _ (List.mem_of_getElem? (i := 5) rfl)) dX5_put_77 ?_
          refine lv_aload hx hb dX5_put_80 (lv_at hl 0 rfl) ?_
          refine gB_S hx hb hts hown (fun _ h => List.mem_cons_of_mem _ (List.mem_append_left _ (List.mem_append_left _ (List.mem_append_left _ (List.mem_append_left _ (List.mem_append_left _ (List.mem_append_left _ (List.mem_append_right _ h)))))))) V hg32 0 18 (by decide) rfl (hts _ (List.mem_of_getElem? (i := 6) rfl)) dX5_put_82 ?_
          obtain ⟨q33, hq33, h⟩ := bd_s h
          cases ho36 : q33.1 with
          | inl r34 =>
            replace h := oCase_l ho36 h
            obtain ⟨hg37, h⟩ := gd_s h
            refine kBS (As := [.int (q31.2 18 q31.1)]) (rest := []) ⟨hx, hb, hml, hown, hts⟩ Z V (mOr_plain ho36 (c_X4_playerAt (l := l) (D := D) (y := y) (ad := ad) hstk hq33)) (cwV 1 hts gX5_put_X4_playerAt rfl rfl rfl (by decide +kernel) ⟨Nat.le_of_ble_eq_true rfl, Nat.le_of_ble_eq_true rfl⟩) (by omega) ((mB_0 y ad _ _ (by omega)).trans (mS_T y ad _)) rfl rfl hl.1 rfl (Nat.le_of_ble_eq_true rfl) ⟨Nat.zero_le _, Nat.zero_le _⟩ rfl dX5_put_85 (fun H locs V => ?_)
            refine lv_astore (lv' := [(6, .ref (ad (4 + r34))), (5, .ref (ad (48 + q31.1))), (4, .ref (ad (32 + r21))), (0, .ref (ad 160)), (1, .int a1), (2, .int a2), (3, .int a3)]) hx hb dX5_put_88 hl (by decide) rfl (fun ls hl => ?_)
            refine lv_iload_n hx hb dX5_put_90 rfl (lv_at hl 6 rfl) ?_
            refine lv_aload hx hb dX5_put_91 (lv_at hl 0 rfl) ?_
            refine gB_P hx hb hts hown (fun _ h => List.mem_cons_of_mem _ (List.mem_append_left _ (List.mem_append_left _ (List.mem_append_left _ (List.mem_append_left _ (List.mem_append_left _ (List.mem_append_right _ h))))))) V hg37 1 1 (by decide) rfl (hts _ (List.mem_of_getElem? (i := 7) rfl)) dX5_put_93 ?_
            refine lv_icmp_le (tgt := 109) hx hb dX5_put_96 (by decide) (fun hc38 => ?_) (fun hc38 => ?_)
            · replace h := ite_t hc38 h
              refine lv_aload hx hb dX5_put_109 (lv_at hl 0 rfl) ?_
              refine lv_dup hx hb dX5_put_111 rfl ?_
              refine gB_P hx hb hts hown (fun _ h => List.mem_cons_of_mem _ (List.mem_append_left _ (List.mem_append_left _ (List.mem_append_left _ (List.mem_append_left _ (List.mem_append_left _ (List.mem_append_right _ h))))))) V hg37 1 1 (by decide) rfl (hts _ (List.mem_of_getElem? (i := 7) rfl)) dX5_put_112 ?_
              refine lv_iload_n hx hb dX5_put_115 rfl (lv_at hl 6 rfl) ?_
              refine lv_isub hx hb dX5_put_116 ?_
              refine pB_P hx hb hts hown (fun _ h => List.mem_cons_of_mem _ (List.mem_append_left _ (List.mem_append_left _ (List.mem_append_left _ (List.mem_append_left _ (List.mem_append_left _ (List.mem_append_right _ h))))))) V hg37 1 1 (by decide) rfl (hts _ (List.mem_of_getElem? (i := 7) rfl)) dX5_put_117 (fun H locs V => ?_)
              refine lv_aload hx hb dX5_put_120 (lv_at hl 1 rfl) ?_
              refine lv_dup hx hb dX5_put_122 rfl ?_
              refine gB_S hx hb hts hown (fun _ h => List.mem_cons_of_mem _ (List.mem_append_left _ (List.mem_append_left _ (List.mem_append_left _ (List.mem_append_left _ (List.mem_append_left _ (List.mem_append_left _ (List.mem_append_right _ h)))))))) V hg32 1 19 (by decide) rfl (hts _ (List.mem_of_getElem? (i := 8) rfl)) dX5_put_123 ?_
              refine lv_iload_n hx hb dX5_put_126 rfl (lv_at hl 6 rfl) ?_
              refine lv_iadd hx hb dX5_put_127 ?_
              refine pB_S hx hb hts hown (fun _ h => List.mem_cons_of_mem _ (List.mem_append_left _ (List.mem_append_left _ (List.mem_append_left _ (List.mem_append_left _ (List.mem_append_left _ (List.mem_append_left _ (List.mem_append_right _ h)))))))) V hg32 1 19 (by decide) rfl (hts _ (List.mem_of_getElem? (i := 8) rfl)) dX5_put_128 (fun H locs V => ?_)
              refine lv_aload hx hb dX5_put_131 (lv_at hl 1 rfl) ?_
              refine gB_S hx hb hts hown (fun _ h => List.mem_cons_of_mem _ (List.mem_append_left _ (List.mem_append_left _ (List.mem_append_left _ (List.mem_append_left _ (List.mem_append_left _ (List.mem_append_left _ (List.mem_append_right _ h)))))))) V hg32 1 19 (by decide) rfl (hts _ (List.mem_of_getElem? (i := 8) rfl)) dX5_put_133 ?_
              obtain rfl := Option.some.inj h
              exact m_iretX hx hb hr hlk V (Nat.zero_le _) (Nat.zero_le _) rfl dX5_put_136
            · replace h := ite_f hc38 h
              obtain rfl := Option.some.inj h
              exact m_throw (text := "the pocket does not hold so many") hstk hx hb hown hlk hno Z V (by decide +kernel) (hts _ (List.mem_of_getElem? (i := 3) rfl)) (hts _ (List.mem_of_getElem? (i := 4) rfl)) (List.mem_of_getElem? (i := 6) rfl) (fun w h => hts w ((fun _ h => List.mem_cons_of_mem _ (List.mem_append_left _ (List.mem_append_right _ h))) w h)) (mB_RX5_43) (mG_RX5_39_43) (hl.1.trans hml.symm) dX5_put_99 dX5_put_102 dX5_put_103 dX5_put_105 dX5_put_108 (Nat.le_of_ble_eq_true rfl) (Nat.le_of_ble_eq_true rfl) (Nat.le_refl _) (Nat.le_refl _) (Nat.le_refl _) (Nat.le_refl _) rfl
          | inr e35 =>
            replace h := oCase_r ho36 h
            obtain rfl := Option.some.inj h
            refine kBSx (As := [.int (q31.2 18 q31.1)]) (rest := []) ⟨hx, hb, hml, hown, hts⟩ Z V (mOr_throw ho36 (c_X4_playerAt (l := l) (D := D) (y := y) (ad := ad) hstk hq33)) (cwV 1 hts gX5_put_X4_playerAt rfl rfl rfl (by decide +kernel) ⟨Nat.le_of_ble_eq_true rfl, Nat.le_of_ble_eq_true rfl⟩) (by omega) ((mB_0 y ad _ _ (by omega)).trans (mS_T y ad _)) rfl rfl hl.1 rfl (Nat.le_of_ble_eq_true rfl) ⟨Nat.le_refl _, Nat.le_refl _⟩ dX5_put_85 (fun ce q9 H locs V hce hcv hcl => ?_)
            exact m_out hlk hno V rfl hce hcv hcl (Nat.le_refl _) (Nat.le_refl _)
        · replace h := ite_t hc30 h
          obtain rfl := Option.some.inj h
          exact m_throw (text := "the game has ended") hstk hx hb hown hlk hno Z V (by decide +kernel) (hts _ (List.mem_of_getElem? (i := 3) rfl)) (hts _ (List.mem_of_getElem? (i := 4) rfl)) (List.mem_of_getElem? (i := 22) rfl) (fun w h => hts w ((fun _ h => List.mem_cons_of_mem _ (List.mem_append_left _ (List.mem_append_right _ h))) w h)) (mB_RX5_43) (mG_RX5_39_43) (hl.1.trans hml.symm) dX5_put_58 dX5_put_61 dX5_put_62 dX5_put_64 dX5_put_67 (Nat.le_of_ble_eq_true rfl) (Nat.le_of_ble_eq_true rfl) (Nat.le_refl _) (Nat.le_refl _) (Nat.le_refl _) (Nat.le_refl _) rfl
      · replace h := ite_f hc28 h
        obtain rfl := Option.some.inj h
        exact m_throw (text := "n is not 1 to 3600") hstk hx hb hown hlk hno Z V (by decide +kernel) (hts _ (List.mem_of_getElem? (i := 1) rfl)) (hts _ (List.mem_of_getElem? (i := 2) rfl)) (List.mem_of_getElem? (i := 24) rfl) (fun w h => hts w ((fun _ h => List.mem_cons_of_mem _ (List.mem_append_left _ (List.mem_append_left _ (List.mem_append_right _ h)))) w h)) (mB_RX5_28) (mG_RX5_24_28) (hl.1.trans hml.symm) dX5_put_40 dX5_put_43 dX5_put_44 dX5_put_46 dX5_put_49 (Nat.le_of_ble_eq_true rfl) (Nat.le_of_ble_eq_true rfl) (Nat.le_refl _) (Nat.le_refl _) (Nat.le_refl _) (Nat.le_refl _) rfl
    · replace h := ite_f hc26 h
      obtain rfl := Option.some.inj h
      exact m_throw (text := "side is not 0 to 1") hstk hx hb hown hlk hno Z V (by decide +kernel) (hts _ (List.mem_of_getElem? (i := 1) rfl)) (hts _ (List.mem_of_getElem? (i := 2) rfl)) (List.mem_of_getElem? (i := 23) rfl) (fun w h => hts w ((fun _ h => List.mem_cons_of_mem _ (List.mem_append_left _ (List.mem_append_left _ (List.mem_append_right _ h)))) w h)) (mB_RX5_28) (mG_RX5_24_28) (hl.1.trans hml.symm) dX5_put_19 dX5_put_22 dX5_put_23 dX5_put_25 dX5_put_28 (Nat.le_of_ble_eq_true rfl) (Nat.le_of_ble_eq_true rfl) (Nat.le_refl _) (Nat.le_refl _) (Nat.le_refl _) (Nat.le_refl _) rfl
  | inr e22 =>
    replace h := oCase_r ho23 h
    obtain rfl := Option.some.inj h
    refine kBSx (As := [.int a1]) (rest := []) ⟨hx, hb, hml, hown, hts⟩ Z V (mOr_throw ho23 (c_X4_gameAt (l := l) (D := D) (y := y) (ad := ad) hstk hq20)) (cwV 1 hts gX5_put_X4_gameAt rfl rfl rfl (by decide +kernel) ⟨Nat.le_of_ble_eq_true rfl, Nat.le_of_ble_eq_true rfl⟩) (by omega) ((mB_0 y ad _ _ (by omega)).trans (mS_T y ad _)) rfl rfl hl.1 rfl (Nat.le_of_ble_eq_true rfl) ⟨Nat.le_refl _, Nat.le_refl _⟩ dX5_put_5 (fun ce q9 H locs V hce hcv hcl => ?_)
    exact m_out hlk hno V rfl hce hcv hcl (Nat.le_refl _) (Nat.le_refl _)
-- X5_steal
def f_X5_steal (N : Nat) (σ τ : mSt) (a1 : Int32) (a2 : Int32) (a3 : Int32) : Option ((Int32 ⊕ String) × mSt × mSt) := (f_X4_gameAt N σ a1).bind fun q18 => oCase q18.1 (fun r19 => if r19 < 16 then (f_X5_isOutside N q18.2 τ a2 0 1).bind fun q23 => if q23.1 = 0 then (f_X5_isOutside N q23.2.1 q23.2.2 a3 1 20).bind fun q25 => if q25.1 = 0 then (f_X0_runs N q25.2.1 r19).bind fun q27 => if q27.1 = 0 then some (.inr "java/lang/IllegalStateException", q27.2, q25.2.2) else if (q27.2 14 r19) = a2 then some (.inr "java/lang/IllegalStateException", q27.2, q25.2.2) else (f_X0_sideAt N q27.2 r19 a2).bind fun q30 => if q30.1 < 32 then (f_X0_sideAt N q30.2 r19 (1 - a2)).bind fun q32 => if q32.1 < 32 then (f_X3_giveTo N q32.2 q32.1 q30.1 a3).bind fun q34 => some (.inl q34.1, (mUp q34.2 20 q30.1 ((q34.2 20 q30.1) + q34.1)), q25.2.2) else none else none else some (.inr "java/lang/IllegalArgumentException", q25.2.1, q25.2.2) else some (.inr "java/lang/IllegalArgumentException", q23.2.1, q23.2.2) else none) (fun e20 => some (.inr e20, q18.2, τ))
set_option maxHeartbeats 4000000 in
set_option maxRecDepth 100000 in
theorem c_X5_steal {l : Launch} {D : va_G} {y : Nat → ClassId} {ad : Nat → Nat} {N : Nat} {σ τ : mSt} {a1 : Int32} {a2 : Int32} {a3 : Int32} {q : (Int32 ⊕ String) × mSt × mSt} (hstk : l.stackTraces = false) (h : f_X5_steal N σ τ a1 a2 a3 = some q) : mCX l yX5_steal wsX5_steal { frames := 7, cells := mOc q.1, slots := mOs q.1, locals := 103 } D y 161 ad mZ (mB y ad σ τ) [.ref (ad 160), .int a1, .int a2, .int a3] (mOi q.1) (mB y ad q.2.1 q.2.2) (mOc q.1) (mOs q.1) := by
  refine m_startX (cc := cX5_steal) (maxL := 7) (ret := (some .int)) (by decide) rfl (Nat.le_of_ble_eq_true rfl) (fun p e s m args below meth c ls hB hno V Z hl => ?_)
  obtain ⟨hx, hb, hml, hown, hts, hr, hlk⟩ := id hB
  have hl : lv_has ls 7 [(0, .ref (ad 160)), (1, .int a1), (2, .int a2), (3, .int a3)] := hl
  rw [f_X5_steal] at h
  refine lv_aload_n hx hb dX5_steal_0 rfl (lv_at hl 0 rfl) ?_
  refine rB_now hx hb hts hown (fun _ h => List.mem_cons_of_mem _ (List.mem_append_left _ (List.mem_append_left _ (List.mem_append_left _ (List.mem_append_left _ (List.mem_append_left _ (List.mem_append_left _ (List.mem_append_right _ h)))))))) V (hts _ (List.mem_of_getElem? (i := 5) rfl)) dX5_steal_1 ?_
  refine lv_iload_n hx hb dX5_steal_4 rfl (lv_at hl 1 rfl) ?_
  obtain ⟨q18, hq18, h⟩ := bd_s h
  cases ho21 : q18.1 with
  | inl r19 =>
    replace h := oCase_l ho21 h
    obtain ⟨hg22, h⟩ := gd_s h
    refine kBS (As := [.int a1]) (rest := []) ⟨hx, hb, hml, hown, hts⟩ Z V (mOr_plain ho21 (c_X4_gameAt (l := l) (D := D) (y := y) (ad := ad) hstk hq18)) (cwV 1 hts gX5_steal_X4_gameAt rfl rfl rfl (by decide +kernel) ⟨Nat.le_of_ble_eq_true rfl, Nat.le_of_ble_eq_true rfl⟩) (by omega) ((mB_0 y ad _ _ (by omega)).trans (mS_T y ad _)) rfl rfl hl.1 rfl (Nat.le_of_ble_eq_true rfl) ⟨Nat.zero_le _, Nat.zero_le _⟩ rfl dX5_steal_5 (fun H locs V => ?_)
    refine lv_astore (lv' := [(4, .ref (ad (32 + r19))), (0, .ref (ad 160)), (1, .int a1), (2, .int a2), (3, .int a3)]) hx hb dX5_steal_8 hl (by decide) rfl (fun ls hl => ?_)
    refine lv_iload_n hx hb dX5_steal_10 rfl (lv_at hl 3 rfl) ?_
    refine lv_iconst (v := 0) hx hb dX5_steal_11 (by decide) ?_
    refine lv_iconst (v := 1) hx hb dX5_steal_12 (by decide) ?_
    obtain ⟨q23, hq23, h⟩ := bd_s h
    refine kBBs (As := [.int a2, .int 0, .int 1]) (rest := []) ⟨hx, hb, hml, hown, hts⟩ Z V (c_X5_isOutside (l := l) (D := D) (y := y) (ad := ad) hstk hq23) (va_cwS 3 hts gX5_steal_X5_isOutside rfl rfl rfl (by decide +kernel) ⟨Nat.le_of_ble_eq_true rfl, Nat.le_of_ble_eq_true rfl⟩) rfl hl.1 rfl (Nat.le_of_ble_eq_true rfl) ⟨Nat.zero_le _, Nat.zero_le _⟩ rfl dX5_steal_13 (fun H locs V => ?_)
    refine lv_if_eq (tgt := 29) hx hb dX5_steal_16 (by decide) (fun hc24 => ?_) (fun hc24 => ?_)
    · replace h := ite_t hc24 h
      refine lv_iload_n hx hb dX5_steal_29 rfl (lv_at hl 4 rfl) ?_
      refine lv_iconst (v := 1) hx hb dX5_steal_30 (by decide) ?_
      refine lv_bipush (v := 20) hx hb dX5_steal_31 (by decide) ?_
      obtain ⟨q25, hq25, h⟩ := bd_s h
      refine kBBs (As := [.int a3, .int 1, .int 20]) (rest := []) ⟨hx, hb, hml, hown, hts⟩ Z V (c_X5_isOutside (l := l) (D := D) (y := y) (ad := ad) hstk hq25) (va_cwS 3 hts gX5_steal_X5_isOutside rfl rfl rfl (by decide +kernel) ⟨Nat.le_of_ble_eq_true rfl, Nat.le_of_ble_eq_true rfl⟩) rfl hl.1 rfl (Nat.le_of_ble_eq_true rfl) ⟨Nat.zero_le _, Nat.zero_le _⟩ rfl dX5_steal_33 (fun H locs V => ?_)
      refine lv_if_eq (tgt := 49) hx hb dX5_steal_36 (by decide) (fun hc26 => ?_) (fun hc26 => ?_)
      · replace h := ite_t hc26 h
        refine lv_aload hx hb dX5_steal_49 (lv_at hl 0 rfl) ?_
        obtain ⟨q27, hq27, h⟩ := bd_s h
        refine kBS (As := []) (rest := []) ⟨hx, hb, hml, hown, hts⟩ Z V (c_X0_runs (l := l) (D := D) (y := y) (ad := ad) hstk hq27) (cwV 0 hts gX5_steal_X0_runs rfl rfl rfl (by decide +kernel) ⟨Nat.le_of_ble_eq_true rfl, Nat.le_of_ble_eq_true rfl⟩) (by omega) ((mB_0 y ad _ _ (by omega)).trans (mS_G y ad _ hg22)) rfl rfl hl.1 rfl (Nat.le_of_ble_eq_true rfl) ⟨Nat.zero_le _, Nat.zero_le _⟩ rfl dX5_steal_51 (fun H locs V => ?_)
        refine lv_if_ne (tgt := 67) hx hb dX5_steal_54 (by decide) (fun hc28 => ?_) (fun hc28 => ?_)
        · replace h := ite_f hc28 h
          refine lv_aload hx hb dX5_steal_67 (lv_at hl 0 rfl) ?_
          refine gB_G hx hb hts hown (fun _ h => List.mem_cons_of_mem _ (List.mem_append_left _ (List.mem_append_left _ (List.mem_append_left _ (List.mem_append_left _ (List.mem_append_left _ (List.mem_append_right _ h))))))) V hg22 4 14 (by decide) rfl (hts _ (List.mem_of_getElem? (i := 6) rfl)) dX5_steal_69 ?_
          refine lv_iload_n hx hb dX5_steal_72 rfl (lv_at hl 3 rfl) ?_
          refine lv_icmp_ne (tgt := 86) hx hb dX5_steal_73 (by decide) (fun hc29 => ?_) (fun hc29 => ?_)
          · replace h := ite_f hc29 h
            refine lv_aload hx hb dX5_steal_86 (lv_at hl 0 rfl) ?_
            refine lv_iload_n hx hb dX5_steal_88 rfl (lv_at hl 3 rfl) ?_
            obtain ⟨q30, hq30, h⟩ := bd_s h
            obtain ⟨hg31, h⟩ := gd_s h
            refine kBS (As := [.int a2]) (rest := []) ⟨hx, hb, hml, hown, hts⟩ Z V (c_X0_sideAt (l := l) (D := D) (y := y) (ad := ad) hstk hq30) (cwV 1 hts gX5_steal_X0_sideAt rfl rfl rfl (by decide +kernel) ⟨Nat.le_of_ble_eq_true rfl, Nat.le_of_ble_eq_true rfl⟩) (by omega) ((mB_0 y ad _ _ (by omega)).trans (mS_G y ad _ hg22)) rfl rfl hl.1 rfl (Nat.le_of_ble_eq_true rfl) ⟨Nat.zero_le _, Nat.zero_le _⟩ rfl dX5_steal_89 (fun H locs V => ?_)
            refine lv_astore (lv' := [(5, .ref (ad (48 + q30.1))), (4, .ref (ad (32 + r19))), (0, .ref (ad 160)), (1, .int a1), (2, .int a2), (3, .int a3)]) hx hb dX5_steal_92 hl (by decide) rfl (fun ls hl => ?_)
            refine lv_aload hx hb dX5_steal_94 (lv_at hl 1 rfl) ?_
            refine lv_iconst (v := 1) hx hb dX5_steal_96 (by decide) ?_
            refine lv_iload_n hx hb dX5_steal_97 rfl (lv_at hl 4 rfl) ?_
            refine lv_isub hx hb dX5_steal_98 ?_
            obtain ⟨q32, hq32, h⟩ := bd_s h
            obtain ⟨hg33, h⟩ := gd_s h
            refine kBS (As := [.int (1 - a2)]) (rest := []) ⟨hx, hb, hml, hown, hts⟩ Z V (c_X0_sideAt (l := l) (D := D) (y := y) (ad := ad) hstk hq32) (cwV 1 hts gX5_steal_X0_sideAt rfl rfl rfl (by decide +kernel) ⟨Nat.le_of_ble_eq_true rfl, Nat.le_of_ble_eq_true rfl⟩) (by omega) ((mB_0 y ad _ _ (by omega)).trans (mS_G y ad _ hg22)) rfl rfl hl.1 rfl (Nat.le_of_ble_eq_true rfl) ⟨Nat.zero_le _, Nat.zero_le _⟩ rfl dX5_steal_99 (fun H locs V => ?_)
            refine lv_aload hx hb dX5_steal_102 (lv_at hl 0 rfl) ?_
            refine lv_iload_n hx hb dX5_steal_104 rfl (lv_at hl 5 rfl) ?_
            obtain ⟨q34, hq34, h⟩ := bd_s h
            refine kBS (As := [.ref (ad (48 + q30.1)), .int a3]) (rest := []) ⟨hx, hb, hml, hown, hts⟩ Z V (c_X3_giveTo (l := l) (D := D) (y := y) (ad := ad) hstk hq34) (cwV 2 hts gX5_steal_X3_giveTo rfl rfl rfl (by decide +kernel) ⟨Nat.le_of_ble_eq_true rfl, Nat.le_of_ble_eq_true rfl⟩) (by omega) ((mB_0 y ad _ _ (by omega)).trans (mS_S y ad _ hg33)) rfl rfl hl.1 rfl (Nat.le_of_ble_eq_true rfl) ⟨Nat.zero_le _, Nat.zero_le _⟩ rfl dX5_steal_105 (fun H locs V => ?_)
            refine lv_istore (lv' := [(6, .int q34.1), (5, .ref (ad (48 + q30.1))), (4, .ref (ad (32 + r19))), (0, .ref (ad 160)), (1, .int a1), (2, .int a2), (3, .int a3)]) hx hb dX5_steal_108 hl (by decide) rfl (fun ls hl => ?_)
            refine lv_aload hx hb dX5_steal_110 (lv_at hl 1 rfl) ?_
            refine lv_dup hx hb dX5_steal_112 rfl ?_
            refine gB_S hx hb hts hown (fun _ h => List.mem_cons_of_mem _ (List.mem_append_left _ (List.mem_append_left _ (List.mem_append_left _ (List.mem_append_left _ (List.mem_append_right _ h)))))) V hg31 2 20 (by decide) rfl (hts _ (List.mem_of_getElem? (i := 7) rfl)) dX5_steal_113 ?_
            refine lv_iload hx hb dX5_steal_116 (lv_at hl 0 rfl) ?_
            refine lv_iadd hx hb dX5_steal_118 ?_
            refine pB_S hx hb hts hown (fun _ h => List.mem_cons_of_mem _ (List.mem_append_left _ (List.mem_append_left _ (List.mem_append_left _ (List.mem_append_left _ (List.mem_append_right _ h)))))) V hg31 2 20 (by decide) rfl (hts _ (List.mem_of_getElem? (i := 7) rfl)) dX5_steal_119 (fun H locs V => ?_)
            refine lv_iload hx hb dX5_steal_122 (lv_at hl 0 rfl) ?_
            obtain rfl := Option.some.inj h
            exact m_iretX hx hb hr hlk V (Nat.zero_le _) (Nat.zero_le _) rfl dX5_steal_124
          · replace h := ite_t hc29 h
            obtain rfl := Option.some.inj h
            exact m_throw (text := "it is the turn of this side") hstk hx hb hown hlk hno Z V (by decide +kernel) (hts _ (List.mem_of_getElem? (i := 3) rfl)) (hts _ (List.mem_of_getElem? (i := 4) rfl)) (List.mem_of_getElem? (i := 26) rfl) (fun w h => hts w ((fun _ h => List.mem_cons_of_mem _ (List.mem_append_left _ (List.mem_append_right _ h))) w h)) (mB_RX5_43) (mG_RX5_39_43) (hl.1.trans hml.symm) dX5_steal_76 dX5_steal_79 dX5_steal_80 dX5_steal_82 dX5_steal_85 (Nat.le_of_ble_eq_true rfl) (Nat.le_of_ble_eq_true rfl) (Nat.le_refl _) (Nat.le_refl _) (Nat.le_refl _) (Nat.le_refl _) rfl
        · replace h := ite_t hc28 h
          obtain rfl := Option.some.inj h
          exact m_throw (text := "the game has ended") hstk hx hb hown hlk hno Z V (by decide +kernel) (hts _ (List.mem_of_getElem? (i := 3) rfl)) (hts _ (List.mem_of_getElem? (i := 4) rfl)) (List.mem_of_getElem? (i := 22) rfl) (fun w h => hts w ((fun _ h => List.mem_cons_of_mem _ (List.mem_append_left _ (List.mem_append_right _ h))) w h)) (mB_RX5_43) (mG_RX5_39_43) (hl.1.trans hml.symm) dX5_steal_57 dX5_steal_60 dX5_steal_61 dX5_steal_63 dX5_steal_66 (Nat.le_of_ble_eq_true rfl) (Nat.le_of_ble_eq_true rfl) (Nat.le_refl _) (Nat.le_refl _) (Nat.le_refl _) (Nat.le_refl _) rfl
      · replace h := ite_f hc26 h
        obtain rfl := Option.some.inj h
        exact m_throw (text := "n is not 1 to 20") hstk hx hb hown hlk hno Z V (by decide +kernel) (hts _ (List.mem_of_getElem? (i := 1) rfl)) (hts _ (List.mem_of_getElem? (i := 2) rfl)) (List.mem_of_getElem? (i := 25) rfl) (fun w h => hts w ((fun _ h => List.mem_cons_of_mem _ (List.mem_append_left _ (List.mem_append_left _ (List.mem_append_right _ h)))) w h)) (mB_RX5_28) (mG_RX5_24_28) (hl.1.trans hml.symm) dX5_steal_39 dX5_steal_42 dX5_steal_43 dX5_steal_45 dX5_steal_48 (Nat.le_of_ble_eq_true rfl) (Nat.le_of_ble_eq_true rfl) (Nat.le_refl _) (Nat.le_refl _) (Nat.le_refl _) (Nat.le_refl _) rfl
    · replace h := ite_f hc24 h
      obtain rfl := Option.some.inj h
      exact m_throw (text := "side is not 0 to 1") hstk hx hb hown hlk hno Z V (by decide +kernel) (hts _ (List.mem_of_getElem? (i := 1) rfl)) (hts _ (List.mem_of_getElem? (i := 2) rfl)) (List.mem_of_getElem? (i := 23) rfl) (fun w h => hts w ((fun _ h => List.mem_cons_of_mem _ (List.mem_append_left _ (List.mem_append_left _ (List.mem_append_right _ h)))) w h)) (mB_RX5_28) (mG_RX5_24_28) (hl.1.trans hml.symm) dX5_steal_19 dX5_steal_22 dX5_steal_23 dX5_steal_25 dX5_steal_28 (Nat.le_of_ble_eq_true rfl) (Nat.le_of_ble_eq_true rfl) (Nat.le_refl _) (Nat.le_refl _) (Nat.le_refl _) (Nat.le_refl _) rfl
  | inr e20 =>
    replace h := oCase_r ho21 h
    obtain rfl := Option.some.inj h
    refine kBSx (As := [.int a1]) (rest := []) ⟨hx, hb, hml, hown, hts⟩ Z V (mOr_throw ho21 (c_X4_gameAt (l := l) (D := D) (y := y) (ad := ad) hstk hq18)) (cwV 1 hts gX5_steal_X4_gameAt rfl rfl rfl (by decide +kernel) ⟨Nat.le_of_ble_eq_true rfl, Nat.le_of_ble_eq_true rfl⟩) (by omega) ((mB_0 y ad _ _ (by omega)).trans (mS_T y ad _)) rfl rfl hl.1 rfl (Nat.le_of_ble_eq_true rfl) ⟨Nat.le_refl _, Nat.le_refl _⟩ dX5_steal_5 (fun ce q9 H locs V hce hcv hcl => ?_)
    exact m_out hlk hno V rfl hce hcv hcl (Nat.le_refl _) (Nat.le_refl _)
-- X5_end
def f_X5_end (N : Nat) (σ τ : mSt) (a1 : Int32) (a2 : Int32) : Option ((Int32 ⊕ String) × mSt × mSt) := (f_X4_gameAt N σ a1).bind fun q13 => oCase q13.1 (fun r14 => if r14 < 16 then (f_X5_isOutside N q13.2 τ a2 (-1) 1).bind fun q18 => if q18.1 = 0 then (f_X0_runs N q18.2.1 r14).bind fun q20 => if q20.1 = 0 then some (.inr "java/lang/IllegalStateException", q20.2, q18.2.2) else if a2 = (-1) then (f_X4_stop N q20.2 r14).bind fun q24 => some (.inl 0, q24.2, q18.2.2) else (f_X4_awardTo N q20.2 r14 (1 - a2)).bind fun q23 => some (.inl q23.1, q23.2, q18.2.2) else some (.inr "java/lang/IllegalArgumentException", q18.2.1, q18.2.2) else none) (fun e15 => some (.inr e15, q13.2, τ))
set_option maxHeartbeats 4000000 in
set_option maxRecDepth 100000 in
theorem c_X5_end {l : Launch} {D : va_G} {y : Nat → ClassId} {ad : Nat → Nat} {N : Nat} {σ τ : mSt} {a1 : Int32} {a2 : Int32} {q : (Int32 ⊕ String) × mSt × mSt} (hstk : l.stackTraces = false) (h : f_X5_end N σ τ a1 a2 = some q) : mCX l yX5_end wsX5_end { frames := 8, cells := mOc q.1, slots := mOs q.1, locals := 129 } D y 161 ad mZ (mB y ad σ τ) [.ref (ad 160), .int a1, .int a2] (mOi q.1) (mB y ad q.2.1 q.2.2) (mOc q.1) (mOs q.1) := by
  refine m_startX (cc := cX5_end) (maxL := 4) (ret := (some .int)) (by decide) rfl (Nat.le_of_ble_eq_true rfl) (fun p e s m args below meth c ls hB hno V Z hl => ?_)
  obtain ⟨hx, hb, hml, hown, hts, hr, hlk⟩ := id hB
  have hl : lv_has ls 4 [(0, .ref (ad 160)), (1, .int a1), (2, .int a2)] := hl
  rw [f_X5_end] at h
  refine lv_aload_n hx hb dX5_end_0 rfl (lv_at hl 0 rfl) ?_
  refine rB_now hx hb hts hown (fun _ h => List.mem_cons_of_mem _ (List.mem_append_left _ (List.mem_append_left _ (List.mem_append_left _ (List.mem_append_left _ (List.mem_append_left _ (List.mem_append_left _ (List.mem_append_left _ (List.mem_append_right _ h))))))))) V (hts _ (List.mem_of_getElem? (i := 5) rfl)) dX5_end_1 ?_
  refine lv_iload_n hx hb dX5_end_4 rfl (lv_at hl 1 rfl) ?_
  obtain ⟨q13, hq13, h⟩ := bd_s h
  cases ho16 : q13.1 with
  | inl r14 =>
    replace h := oCase_l ho16 h
    obtain ⟨hg17, h⟩ := gd_s h
    refine kBS (As := [.int a1]) (rest := []) ⟨hx, hb, hml, hown, hts⟩ Z V (mOr_plain ho16 (c_X4_gameAt (l := l) (D := D) (y := y) (ad := ad) hstk hq13)) (cwV 1 hts gX5_end_X4_gameAt rfl rfl rfl (by decide +kernel) ⟨Nat.le_of_ble_eq_true rfl, Nat.le_of_ble_eq_true rfl⟩) (by omega) ((mB_0 y ad _ _ (by omega)).trans (mS_T y ad _)) rfl rfl hl.1 rfl (Nat.le_of_ble_eq_true rfl) ⟨Nat.zero_le _, Nat.zero_le _⟩ rfl dX5_end_5 (fun H locs V => ?_)
    refine lv_astore_n (lv' := [(3, .ref (ad (32 + r14))), (0, .ref (ad 160)), (1, .int a1), (2, .int a2)]) hx hb dX5_end_8 rfl hl (by decide) rfl (fun ls hl => ?_)
    refine lv_iload_n hx hb dX5_end_9 rfl (lv_at hl 3 rfl) ?_
    refine lv_iconst (v := (-1)) hx hb dX5_end_10 (by decide) ?_
    refine lv_iconst (v := 1) hx hb dX5_end_11 (by decide) ?_
    obtain ⟨q18, hq18, h⟩ := bd_s h
    refine kBBs (As := [.int a2, .int (-1), .int 1]) (rest := []) ⟨hx, hb, hml, hown, hts⟩ Z V (c_X5_isOutside (l := l) (D := D) (y := y) (ad := ad) hstk hq18) (va_cwS 3 hts gX5_end_X5_isOutside rfl rfl rfl (by decide +kernel) ⟨Nat.le_of_ble_eq_true rfl, Nat.le_of_ble_eq_true rfl⟩) rfl hl.1 rfl (Nat.le_of_ble_eq_true rfl) ⟨Nat.zero_le _, Nat.zero_le _⟩ rfl dX5_end_12 (fun H locs V => ?_)
    refine lv_if_eq (tgt := 28) hx hb dX5_end_15 (by decide) (fun hc19 => ?_) (fun hc19 => ?_)
    · replace h := ite_t hc19 h
      refine lv_aload_n hx hb dX5_end_28 rfl (lv_at hl 0 rfl) ?_
      obtain ⟨q20, hq20, h⟩ := bd_s h
      refine kBS (As := []) (rest := []) ⟨hx, hb, hml, hown, hts⟩ Z V (c_X0_runs (l := l) (D := D) (y := y) (ad := ad) hstk hq20) (cwV 0 hts gX5_end_X0_runs rfl rfl rfl (by decide +kernel) ⟨Nat.le_of_ble_eq_true rfl, Nat.le_of_ble_eq_true rfl⟩) (by omega) ((mB_0 y ad _ _ (by omega)).trans (mS_G y ad _ hg17)) rfl rfl hl.1 rfl (Nat.le_of_ble_eq_true rfl) ⟨Nat.zero_le _, Nat.zero_le _⟩ rfl dX5_end_29 (fun H locs V => ?_)
      refine lv_if_ne (tgt := 45) hx hb dX5_end_32 (by decide) (fun hc21 => ?_) (fun hc21 => ?_)
      · replace h := ite_f hc21 h
        refine lv_iload_n hx hb dX5_end_45 rfl (lv_at hl 3 rfl) ?_
        refine lv_iconst (v := (-1)) hx hb dX5_end_46 (by decide) ?_
        refine lv_icmp_ne (tgt := 60) hx hb dX5_end_47 (by decide) (fun hc22 => ?_) (fun hc22 => ?_)
        · replace h := ite_f hc22 h
          refine lv_aload_n hx hb dX5_end_60 rfl (lv_at hl 1 rfl) ?_
          refine rB_now hx hb hts hown (fun _ h => List.mem_cons_of_mem _ (List.mem_append_left _ (List.mem_append_left _ (List.mem_append_left _ (List.mem_append_left _ (List.mem_append_left _ (List.mem_append_left _ (List.mem_append_left _ (List.mem_append_right _ h))))))))) V (hts _ (List.mem_of_getElem? (i := 5) rfl)) dX5_end_61 ?_
          refine lv_aload_n hx hb dX5_end_64 rfl (lv_at hl 0 rfl) ?_
          refine lv_iconst (v := 1) hx hb dX5_end_65 (by decide) ?_
          refine lv_iload_n hx hb dX5_end_66 rfl (lv_at hl 3 rfl) ?_
          refine lv_isub hx hb dX5_end_67 ?_
          obtain ⟨q23, hq23, h⟩ := bd_s h
          refine kBS (As := [.ref (ad (32 + r14)), .int (1 - a2)]) (rest := []) ⟨hx, hb, hml, hown, hts⟩ Z V (c_X4_awardTo (l := l) (D := D) (y := y) (ad := ad) hstk hq23) (cwV 2 hts gX5_end_X4_awardTo rfl rfl rfl (by decide +kernel) ⟨Nat.le_of_ble_eq_true rfl, Nat.le_of_ble_eq_true rfl⟩) (by omega) ((mB_0 y ad _ _ (by omega)).trans (mS_T y ad _)) rfl rfl hl.1 rfl (Nat.le_of_ble_eq_true rfl) ⟨Nat.zero_le _, Nat.zero_le _⟩ rfl dX5_end_68 (fun H locs V => ?_)
          obtain rfl := Option.some.inj h
          exact m_iretX hx hb hr hlk V (Nat.zero_le _) (Nat.zero_le _) rfl dX5_end_71
        · replace h := ite_t hc22 h
          refine lv_aload_n hx hb dX5_end_50 rfl (lv_at hl 1 rfl) ?_
          refine rB_now hx hb hts hown (fun _ h => List.mem_cons_of_mem _ (List.mem_append_left _ (List.mem_append_left _ (List.mem_append_left _ (List.mem_append_left _ (List.mem_append_left _ (List.mem_append_left _ (List.mem_append_left _ (List.mem_append_right _ h))))))))) V (hts _ (List.mem_of_getElem? (i := 5) rfl)) dX5_end_51 ?_
          refine lv_aload_n hx hb dX5_end_54 rfl (lv_at hl 0 rfl) ?_
          obtain ⟨q24, hq24, h⟩ := bd_s h
          refine kBS (As := [.ref (ad (32 + r14))]) (rest := []) ⟨hx, hb, hml, hown, hts⟩ Z V (c_X4_stop (l := l) (D := D) (y := y) (ad := ad) hstk hq24) (cwV 1 hts gX5_end_X4_stop rfl rfl rfl (by decide +kernel) ⟨Nat.le_of_ble_eq_true rfl, Nat.le_of_ble_eq_true rfl⟩) (by omega) ((mB_0 y ad _ _ (by omega)).trans (mS_T y ad _)) rfl rfl hl.1 rfl (Nat.le_of_ble_eq_true rfl) ⟨Nat.zero_le _, Nat.zero_le _⟩ rfl dX5_end_55 (fun H locs V => ?_)
          refine lv_iconst (v := 0) hx hb dX5_end_58 (by decide) ?_
          obtain rfl := Option.some.inj h
          exact m_iretX hx hb hr hlk V (Nat.zero_le _) (Nat.zero_le _) rfl dX5_end_59
      · replace h := ite_t hc21 h
        obtain rfl := Option.some.inj h
        exact m_throw (text := "the game has ended") hstk hx hb hown hlk hno Z V (by decide +kernel) (hts _ (List.mem_of_getElem? (i := 3) rfl)) (hts _ (List.mem_of_getElem? (i := 4) rfl)) (List.mem_of_getElem? (i := 22) rfl) (fun w h => hts w ((fun _ h => List.mem_cons_of_mem _ (List.mem_append_left _ (List.mem_append_right _ h))) w h)) (mB_RX5_43) (mG_RX5_39_43) (hl.1.trans hml.symm) dX5_end_35 dX5_end_38 dX5_end_39 dX5_end_41 dX5_end_44 (Nat.le_of_ble_eq_true rfl) (Nat.le_of_ble_eq_true rfl) (Nat.le_refl _) (Nat.le_refl _) (Nat.le_refl _) (Nat.le_refl _) rfl
    · replace h := ite_f hc19 h
      obtain rfl := Option.some.inj h
      exact m_throw (text := "side is not -1 to 1") hstk hx hb hown hlk hno Z V (by decide +kernel) (hts _ (List.mem_of_getElem? (i := 1) rfl)) (hts _ (List.mem_of_getElem? (i := 2) rfl)) (List.mem_of_getElem? (i := 27) rfl) (fun w h => hts w ((fun _ h => List.mem_cons_of_mem _ (List.mem_append_left _ (List.mem_append_left _ (List.mem_append_right _ h)))) w h)) (mB_RX5_28) (mG_RX5_24_28) (hl.1.trans hml.symm) dX5_end_18 dX5_end_21 dX5_end_22 dX5_end_24 dX5_end_27 (Nat.le_of_ble_eq_true rfl) (Nat.le_of_ble_eq_true rfl) (Nat.le_refl _) (Nat.le_refl _) (Nat.le_refl _) (Nat.le_refl _) rfl
  | inr e15 =>
    replace h := oCase_r ho16 h
    obtain rfl := Option.some.inj h
    refine kBSx (As := [.int a1]) (rest := []) ⟨hx, hb, hml, hown, hts⟩ Z V (mOr_throw ho16 (c_X4_gameAt (l := l) (D := D) (y := y) (ad := ad) hstk hq13)) (cwV 1 hts gX5_end_X4_gameAt rfl rfl rfl (by decide +kernel) ⟨Nat.le_of_ble_eq_true rfl, Nat.le_of_ble_eq_true rfl⟩) (by omega) ((mB_0 y ad _ _ (by omega)).trans (mS_T y ad _)) rfl rfl hl.1 rfl (Nat.le_of_ble_eq_true rfl) ⟨Nat.le_refl _, Nat.le_refl _⟩ dX5_end_5 (fun ce q9 H locs V hce hcv hcl => ?_)
    exact m_out hlk hno V rfl hce hcv hcl (Nat.le_refl _) (Nat.le_refl _)
-- X5_game
def f_X5_game (N : Nat) (σ τ : mSt) (a1 : Int32) (a2 : Int32) : Option ((Int32 ⊕ String) × mSt × mSt) := (f_X4_gameAt N σ a1).bind fun q18 => oCase q18.1 (fun r19 => if r19 < 16 then if a2.toInt < 0 ∨ 10 < a2.toInt then some (.inr "java/lang/IndexOutOfBoundsException", q18.2, τ) else if a2 = 0 then some (.inl (q18.2 18 (2 * r19)), q18.2, τ) else if a2 = 1 then some (.inl (q18.2 18 (2 * r19 + 1)), q18.2, τ) else if a2 = 2 then some (.inl (q18.2 19 (2 * r19)), q18.2, τ) else if a2 = 3 then some (.inl (q18.2 19 (2 * r19 + 1)), q18.2, τ) else if a2 = 4 then some (.inl (q18.2 14 r19), q18.2, τ) else if a2 = 5 then some (.inl (q18.2 15 r19), q18.2, τ) else if a2 = 6 then some (.inl (q18.2 16 r19), q18.2, τ) else if a2 = 7 then some (.inl (q18.2 17 r19), q18.2, τ) else if a2 = 8 then some (.inl (q18.2 20 (2 * r19)), q18.2, τ) else if a2 = 9 then some (.inl (q18.2 20 (2 * r19 + 1)), q18.2, τ) else if a2 = 10 then some (.inl (q18.2 13 r19), q18.2, τ) else none else none) (fun e20 => some (.inr e20, q18.2, τ))
set_option maxHeartbeats 4000000 in
set_option maxRecDepth 100000 in
theorem c_X5_game {l : Launch} {D : va_G} {y : Nat → ClassId} {ad : Nat → Nat} {N : Nat} {σ τ : mSt} {a1 : Int32} {a2 : Int32} {q : (Int32 ⊕ String) × mSt × mSt} (hstk : l.stackTraces = false) (h : f_X5_game N σ τ a1 a2 = some q) : mCX l yX5_game wsX5_game { frames := 7, cells := mOc q.1, slots := mOs q.1, locals := 103 } D y 161 ad mZ (mB y ad σ τ) [.ref (ad 160), .int a1, .int a2] (mOi q.1) (mB y ad q.2.1 q.2.2) (mOc q.1) (mOs q.1) := by
  refine m_startX (cc := cX5_game) (maxL := 4) (ret := (some .int)) (by decide) rfl (Nat.le_of_ble_eq_true rfl) (fun p e s m args below meth c ls hB hno V Z hl => ?_)
  obtain ⟨hx, hb, hml, hown, hts, hr, hlk⟩ := id hB
  have hl : lv_has ls 4 [(0, .ref (ad 160)), (1, .int a1), (2, .int a2)] := hl
  rw [f_X5_game] at h
  refine lv_aload_n hx hb dX5_game_0 rfl (lv_at hl 0 rfl) ?_
  refine rB_now hx hb hts hown (fun _ h => List.mem_cons_of_mem _ (List.mem_append_left _ (List.mem_append_left _ (List.mem_append_left _ (List.mem_append_left _ (List.mem_append_left _ (List.mem_append_right _ h))))))) V (hts _ (List.mem_of_getElem? (i := 3) rfl)) dX5_game_1 ?_
  refine lv_iload_n hx hb dX5_game_4 rfl (lv_at hl 1 rfl) ?_
  obtain ⟨q18, hq18, h⟩ := bd_s h
  cases ho21 : q18.1 with
  | inl r19 =>
    replace h := oCase_l ho21 h
    obtain ⟨hg22, h⟩ := gd_s h
    refine kBS (As := [.int a1]) (rest := []) ⟨hx, hb, hml, hown, hts⟩ Z V (mOr_plain ho21 (c_X4_gameAt (l := l) (D := D) (y := y) (ad := ad) hstk hq18)) (cwV 1 hts gX5_game_X4_gameAt rfl rfl rfl (by decide +kernel) ⟨Nat.le_of_ble_eq_true rfl, Nat.le_of_ble_eq_true rfl⟩) (by omega) ((mB_0 y ad _ _ (by omega)).trans (mS_T y ad _)) rfl rfl hl.1 rfl (Nat.le_of_ble_eq_true rfl) ⟨Nat.zero_le _, Nat.zero_le _⟩ rfl dX5_game_5 (fun H locs V => ?_)
    refine lv_astore_n (lv' := [(3, .ref (ad (32 + r19))), (0, .ref (ad 160)), (1, .int a1), (2, .int a2)]) hx hb dX5_game_8 rfl hl (by decide) rfl (fun ls hl => ?_)
    refine lv_iload_n hx hb dX5_game_9 rfl (lv_at hl 3 rfl) ?_
    by_cases hd23 : a2.toInt < 0 ∨ 10 < a2.toInt
    · replace h := ite_t hd23 h
      refine lv_tableOut (tgt := 141) hx hb dX5_game_10 hd23 (by decide) ?_
      obtain rfl := Option.some.inj h
      exact m_throw (text := "what is not 0 to 10") hstk hx hb hown hlk hno Z V (by decide +kernel) (hts _ (List.mem_of_getElem? (i := 1) rfl)) (hts _ (List.mem_of_getElem? (i := 2) rfl)) (List.mem_of_getElem? (i := 28) rfl) (fun w h => hts w ((fun _ h => List.mem_cons_of_mem _ (List.mem_append_left _ (List.mem_append_right _ h))) w h)) (mB_RX5_82) (mG_RX5_78_82) (hl.1.trans hml.symm) dX5_game_141 dX5_game_144 dX5_game_145 dX5_game_147 dX5_game_150 (Nat.le_of_ble_eq_true rfl) (Nat.le_of_ble_eq_true rfl) (Nat.le_refl _) (Nat.le_refl _) (Nat.le_refl _) (Nat.le_refl _) rfl
    · replace h := ite_f hd23 h
      by_cases hk34 : a2 = 0
      · replace h := ite_t hk34 h
        refine lv_tableIn (tgt := 68) hx hb dX5_game_10 (fun q => hd23 (Or.inl q)) (fun q => hd23 (Or.inr q)) (by rw [hk34]; rfl) (by decide) ?_
        refine lv_aload_n hx hb dX5_game_68 rfl (lv_at hl 0 rfl) ?_
        refine sB_w hx hb hts hown (fun _ h => List.mem_cons_of_mem _ (List.mem_append_left _ (List.mem_append_left _ (List.mem_append_left _ (List.mem_append_left _ (List.mem_append_right _ h)))))) V hg22 (hts _ (List.mem_of_getElem? (i := 4) rfl)) dX5_game_69 ?_
        refine gB_S hx hb hts hown (fun _ h => List.mem_cons_of_mem _ (List.mem_append_left _ (List.mem_append_left _ (List.mem_append_left _ (List.mem_append_right _ h))))) V (show 2 * r19 < 32 by have := hg22; omega) 0 18 (by decide) rfl (hts _ (List.mem_of_getElem? (i := 5) rfl)) dX5_game_72 ?_
        obtain rfl := Option.some.inj h
        exact m_iretX hx hb hr hlk V (Nat.zero_le _) (Nat.zero_le _) rfl dX5_game_75
      · replace h := ite_f hk34 h
        by_cases hk33 : a2 = 1
        · replace h := ite_t hk33 h
          refine lv_tableIn (tgt := 76) hx hb dX5_game_10 (fun q => hd23 (Or.inl q)) (fun q => hd23 (Or.inr q)) (by rw [hk33]; rfl) (by decide) ?_
          refine lv_aload_n hx hb dX5_game_76 rfl (lv_at hl 0 rfl) ?_
          refine sB_b hx hb hts hown (fun _ h => List.mem_cons_of_mem _ (List.mem_append_left _ (List.mem_append_left _ (List.mem_append_left _ (List.mem_append_left _ (List.mem_append_right _ h)))))) V hg22 (hts _ (List.mem_of_getElem? (i := 6) rfl)) dX5_game_77 ?_
          refine gB_S hx hb hts hown (fun _ h => List.mem_cons_of_mem _ (List.mem_append_left _ (List.mem_append_left _ (List.mem_append_left _ (List.mem_append_right _ h))))) V (show 2 * r19 + 1 < 32 by have := hg22; omega) 0 18 (by decide) rfl (hts _ (List.mem_of_getElem? (i := 5) rfl)) dX5_game_80 ?_
          obtain rfl := Option.some.inj h
          exact m_iretX hx hb hr hlk V (Nat.zero_le _) (Nat.zero_le _) rfl dX5_game_83
        · replace h := ite_f hk33 h
          by_cases hk32 : a2 = 2
          · replace h := ite_t hk32 h
            refine lv_tableIn (tgt := 84) hx hb dX5_game_10 (fun q => hd23 (Or.inl q)) (fun q => hd23 (Or.inr q)) (by rw [hk32]; rfl) (by decide) ?_
            refine lv_aload_n hx hb dX5_game_84 rfl (lv_at hl 0 rfl) ?_
            refine sB_w hx hb hts hown (fun _ h => List.mem_cons_of_mem _ (List.mem_append_left _ (List.mem_append_left _ (List.mem_append_left _ (List.mem_append_left _ (List.mem_append_right _ h)))))) V hg22 (hts _ (List.mem_of_getElem? (i := 4) rfl)) dX5_game_85 ?_
            refine gB_S hx hb hts hown (fun _ h => List.mem_cons_of_mem _ (List.mem_append_left _ (List.mem_append_left _ (List.mem_append_left _ (List.mem_append_right _ h))))) V (show 2 * r19 < 32 by have := hg22; omega) 1 19 (by decide) rfl (hts _ (List.mem_of_getElem? (i := 7) rfl)) dX5_game_88 ?_
            obtain rfl := Option.some.inj h
            exact m_iretX hx hb hr hlk V (Nat.zero_le _) (Nat.zero_le _) rfl dX5_game_91
          · replace h := ite_f hk32 h
            by_cases hk31 : a2 = 3
            · replace h := ite_t hk31 h
              refine lv_tableIn (tgt := 92) hx hb dX5_game_10 (fun q => hd23 (Or.inl q)) (fun q => hd23 (Or.inr q)) (by rw [hk31]; rfl) (by decide) ?_
              refine lv_aload_n hx hb dX5_game_92 rfl (lv_at hl 0 rfl) ?_
              refine sB_b hx hb hts hown (fun _ h => List.mem_cons_of_mem _ (List.mem_append_left _ (List.mem_append_left _ (List.mem_append_left _ (List.mem_append_left _ (List.mem_append_right _ h)))))) V hg22 (hts _ (List.mem_of_getElem? (i := 6) rfl)) dX5_game_93 ?_
              refine gB_S hx hb hts hown (fun _ h => List.mem_cons_of_mem _ (List.mem_append_left _ (List.mem_append_left _ (List.mem_append_left _ (List.mem_append_right _ h))))) V (show 2 * r19 + 1 < 32 by have := hg22; omega) 1 19 (by decide) rfl (hts _ (List.mem_of_getElem? (i := 7) rfl)) dX5_game_96 ?_
              obtain rfl := Option.some.inj h
              exact m_iretX hx hb hr hlk V (Nat.zero_le _) (Nat.zero_le _) rfl dX5_game_99
            · replace h := ite_f hk31 h
              by_cases hk30 : a2 = 4
              · replace h := ite_t hk30 h
                refine lv_tableIn (tgt := 100) hx hb dX5_game_10 (fun q => hd23 (Or.inl q)) (fun q => hd23 (Or.inr q)) (by rw [hk30]; rfl) (by decide) ?_
                refine lv_aload_n hx hb dX5_game_100 rfl (lv_at hl 0 rfl) ?_
                refine gB_G hx hb hts hown (fun _ h => List.mem_cons_of_mem _ (List.mem_append_left _ (List.mem_append_left _ (List.mem_append_left _ (List.mem_append_left _ (List.mem_append_right _ h)))))) V hg22 4 14 (by decide) rfl (hts _ (List.mem_of_getElem? (i := 8) rfl)) dX5_game_101 ?_
                obtain rfl := Option.some.inj h
                exact m_iretX hx hb hr hlk V (Nat.zero_le _) (Nat.zero_le _) rfl dX5_game_104
              · replace h := ite_f hk30 h
                by_cases hk29 : a2 = 5
                · replace h := ite_t hk29 h
                  refine lv_tableIn (tgt := 105) hx hb dX5_game_10 (fun q => hd23 (Or.inl q)) (fun q => hd23 (Or.inr q)) (by rw [hk29]; rfl) (by decide) ?_
                  refine lv_aload_n hx hb dX5_game_105 rfl (lv_at hl 0 rfl) ?_
                  refine gB_G hx hb hts hown (fun _ h => List.mem_cons_of_mem _ (List.mem_append_left _ (List.mem_append_left _ (List.mem_append_left _ (List.mem_append_left _ (List.mem_append_right _ h)))))) V hg22 5 15 (by decide) rfl (hts _ (List.mem_of_getElem? (i := 9) rfl)) dX5_game_106 ?_
                  obtain rfl := Option.some.inj h
                  exact m_iretX hx hb hr hlk V (Nat.zero_le _) (Nat.zero_le _) rfl dX5_game_109
                · replace h := ite_f hk29 h
                  by_cases hk28 : a2 = 6
                  · replace h := ite_t hk28 h
                    refine lv_tableIn (tgt := 110) hx hb dX5_game_10 (fun q => hd23 (Or.inl q)) (fun q => hd23 (Or.inr q)) (by rw [hk28]; rfl) (by decide) ?_
                    refine lv_aload_n hx hb dX5_game_110 rfl (lv_at hl 0 rfl) ?_
                    refine gB_G hx hb hts hown (fun _ h => List.mem_cons_of_mem _ (List.mem_append_left _ (List.mem_append_left _ (List.mem_append_left _ (List.mem_append_left _ (List.mem_append_right _ h)))))) V hg22 6 16 (by decide) rfl (hts _ (List.mem_of_getElem? (i := 10) rfl)) dX5_game_111 ?_
                    obtain rfl := Option.some.inj h
                    exact m_iretX hx hb hr hlk V (Nat.zero_le _) (Nat.zero_le _) rfl dX5_game_114
                  · replace h := ite_f hk28 h
                    by_cases hk27 : a2 = 7
                    · replace h := ite_t hk27 h
                      refine lv_tableIn (tgt := 115) hx hb dX5_game_10 (fun q => hd23 (Or.inl q)) (fun q => hd23 (Or.inr q)) (by rw [hk27]; rfl) (by decide) ?_
                      refine lv_aload_n hx hb dX5_game_115 rfl (lv_at hl 0 rfl) ?_
                      refine gB_G hx hb hts hown (fun _ h => List.mem_cons_of_mem _ (List.mem_append_left _ (List.mem_append_left _ (List.mem_append_left _ (List.mem_append_left _ (List.mem_append_right _ h)))))) V hg22 7 17 (by decide) rfl (hts _ (List.mem_of_getElem? (i := 11) rfl)) dX5_game_116 ?_
                      obtain rfl := Option.some.inj h
                      exact m_iretX hx hb hr hlk V (Nat.zero_le _) (Nat.zero_le _) rfl dX5_game_119
                    · replace h := ite_f hk27 h
                      by_cases hk26 : a2 = 8
                      · replace h := ite_t hk26 h
                        refine lv_tableIn (tgt := 120) hx hb dX5_game_10 (fun q => hd23 (Or.inl q)) (fun q => hd23 (Or.inr q)) (by rw [hk26]; rfl) (by decide) ?_
                        refine lv_aload_n hx hb dX5_game_120 rfl (lv_at hl 0 rfl) ?_
                        refine sB_w hx hb hts hown (fun _ h => List.mem_cons_of_mem _ (List.mem_append_left _ (List.mem_append_left _ (List.mem_append_left _ (List.mem_append_left _ (List.mem_append_right _ h)))))) V hg22 (hts _ (List.mem_of_getElem? (i := 4) rfl)) dX5_game_121 ?_
                        refine gB_S hx hb hts hown (fun _ h => List.mem_cons_of_mem _ (List.mem_append_left _ (List.mem_append_left _ (List.mem_append_left _ (List.mem_append_right _ h))))) V (show 2 * r19 < 32 by have := hg22; omega) 2 20 (by decide) rfl (hts _ (List.mem_of_getElem? (i := 12) rfl)) dX5_game_124 ?_
                        obtain rfl := Option.some.inj h
                        exact m_iretX hx hb hr hlk V (Nat.zero_le _) (Nat.zero_le _) rfl dX5_game_127
                      · replace h := ite_f hk26 h
                        by_cases hk25 : a2 = 9
                        · replace h := ite_t hk25 h
                          refine lv_tableIn (tgt := 128) hx hb dX5_game_10 (fun q => hd23 (Or.inl q)) (fun q => hd23 (Or.inr q)) (by rw [hk25]; rfl) (by decide) ?_
                          refine lv_aload_n hx hb dX5_game_128 rfl (lv_at hl 0 rfl) ?_
                          refine sB_b hx hb hts hown (fun _ h => List.mem_cons_of_mem _ (List.mem_append_left _ (List.mem_append_left _ (List.mem_append_left _ (List.mem_append_left _ (List.mem_append_right _ h)))))) V hg22 (hts _ (List.mem_of_getElem? (i := 6) rfl)) dX5_game_129 ?_
                          refine gB_S hx hb hts hown (fun _ h => List.mem_cons_of_mem _ (List.mem_append_left _ (List.mem_append_left _ (List.mem_append_left _ (List.mem_append_right _ h))))) V (show 2 * r19 + 1 < 32 by have := hg22; omega) 2 20 (by decide) rfl (hts _ (List.mem_of_getElem? (i := 12) rfl)) dX5_game_132 ?_
                          obtain rfl := Option.some.inj h
                          exact m_iretX hx hb hr hlk V (Nat.zero_le _) (Nat.zero_le _) rfl dX5_game_135
                        · replace h := ite_f hk25 h
                          by_cases hk24 : a2 = 10
                          · replace h := ite_t hk24 h
                            refine lv_tableIn (tgt := 136) hx hb dX5_game_10 (fun q => hd23 (Or.inl q)) (fun q => hd23 (Or.inr q)) (by rw [hk24]; rfl) (by decide) ?_
                            refine lv_aload_n hx hb dX5_game_136 rfl (lv_at hl 0 rfl) ?_
                            refine gB_G hx hb hts hown (fun _ h => List.mem_cons_of_mem _ (List.mem_append_left _ (List.mem_append_left _ (List.mem_append_left _ (List.mem_append_left _ (List.mem_append_right _ h)))))) V hg22 3 13 (by decide) rfl (hts _ (List.mem_of_getElem? (i := 13) rfl)) dX5_game_137 ?_
                            obtain rfl := Option.some.inj h
                            exact m_iretX hx hb hr hlk V (Nat.zero_le _) (Nat.zero_le _) rfl dX5_game_140
                          · replace h := ite_f hk24 h
                            exact nomatch h
  | inr e20 =>
    replace h := oCase_r ho21 h
    obtain rfl := Option.some.inj h
    refine kBSx (As := [.int a1]) (rest := []) ⟨hx, hb, hml, hown, hts⟩ Z V (mOr_throw ho21 (c_X4_gameAt (l := l) (D := D) (y := y) (ad := ad) hstk hq18)) (cwV 1 hts gX5_game_X4_gameAt rfl rfl rfl (by decide +kernel) ⟨Nat.le_of_ble_eq_true rfl, Nat.le_of_ble_eq_true rfl⟩) (by omega) ((mB_0 y ad _ _ (by omega)).trans (mS_T y ad _)) rfl rfl hl.1 rfl (Nat.le_of_ble_eq_true rfl) ⟨Nat.le_refl _, Nat.le_refl _⟩ dX5_game_5 (fun ce q9 H locs V hce hcv hcl => ?_)
    exact m_out hlk hno V rfl hce hcv hcl (Nat.le_refl _) (Nat.le_refl _)
-- X5_pass
def f_X5_pass (N : Nat) (σ τ : mSt) (a1 : Int32) : Option ((Int32 ⊕ String) × mSt × mSt) := (f_X5_isOutside N σ τ a1 1 1200).bind fun q5 => if q5.1 = 0 then if ((q5.2.1 24 0) + a1) ≤ 20000 then (f_X4_letGoBy N q5.2.1 a1).bind fun q8 => some (.inl (q8.2 28 0), q8.2, q5.2.2) else some (.inr "java/lang/IllegalStateException", q5.2.1, q5.2.2) else some (.inr "java/lang/IllegalArgumentException", q5.2.1, q5.2.2)
set_option maxHeartbeats 4000000 in
set_option maxRecDepth 100000 in
theorem c_X5_pass {l : Launch} {D : va_G} {y : Nat → ClassId} {ad : Nat → Nat} {N : Nat} {σ τ : mSt} {a1 : Int32} {q : (Int32 ⊕ String) × mSt × mSt} (hstk : l.stackTraces = false) (h : f_X5_pass N σ τ a1 = some q) : mCX l yX5_pass wsX5_pass { frames := 10, cells := mOc q.1, slots := mOs q.1, locals := 175 } D y 161 ad mZ (mB y ad σ τ) [.ref (ad 160), .int a1] (mOi q.1) (mB y ad q.2.1 q.2.2) (mOc q.1) (mOs q.1) := by
  refine m_startX (cc := cX5_pass) (maxL := 2) (ret := (some .int)) (by decide) rfl (Nat.le_of_ble_eq_true rfl) (fun p e s m args below meth c ls hB hno V Z hl => ?_)
  obtain ⟨hx, hb, hml, hown, hts, hr, hlk⟩ := id hB
  have hl : lv_has ls 2 [(0, .ref (ad 160)), (1, .int a1)] := hl
  rw [f_X5_pass] at h
  refine lv_iload_n hx hb dX5_pass_0 rfl (lv_at hl 1 rfl) ?_
  refine lv_iconst (v := 1) hx hb dX5_pass_1 (by decide) ?_
  refine lv_sipush (v := 1200) hx hb dX5_pass_2 (by decide) ?_
  obtain ⟨q5, hq5, h⟩ := bd_s h
  refine kBBs (As := [.int a1, .int 1, .int 1200]) (rest := []) ⟨hx, hb, hml, hown, hts⟩ Z V (c_X5_isOutside (l := l) (D := D) (y := y) (ad := ad) hstk hq5) (va_cwS 3 hts gX5_pass_X5_isOutside rfl rfl rfl (by decide +kernel) ⟨Nat.le_of_ble_eq_true rfl, Nat.le_of_ble_eq_true rfl⟩) rfl hl.1 rfl (Nat.le_of_ble_eq_true rfl) ⟨Nat.zero_le _, Nat.zero_le _⟩ rfl dX5_pass_5 (fun H locs V => ?_)
  refine lv_if_eq (tgt := 22) hx hb dX5_pass_8 (by decide) (fun hc6 => ?_) (fun hc6 => ?_)
  · replace h := ite_t hc6 h
    refine lv_aload_n hx hb dX5_pass_22 rfl (lv_at hl 0 rfl) ?_
    refine rB_now hx hb hts hown (fun _ h => List.mem_cons_of_mem _ (List.mem_append_left _ (List.mem_append_left _ (List.mem_append_left _ (List.mem_append_left _ (List.mem_append_left _ (List.mem_append_left _ (List.mem_append_left _ (List.mem_append_left _ (List.mem_append_right _ h)))))))))) V (hts _ (List.mem_of_getElem? (i := 5) rfl)) dX5_pass_23 ?_
    refine gB_T hx hb hts hown (fun _ h => List.mem_cons_of_mem _ (List.mem_append_left _ (List.mem_append_left _ (List.mem_append_left _ (List.mem_append_left _ (List.mem_append_left _ (List.mem_append_left _ (List.mem_append_left _ (List.mem_append_right _ h))))))))) V 3 24 (by decide) rfl (hts _ (List.mem_of_getElem? (i := 6) rfl)) dX5_pass_26 ?_
    refine lv_iload_n hx hb dX5_pass_29 rfl (lv_at hl 1 rfl) ?_
    refine lv_iadd hx hb dX5_pass_30 ?_
    refine lv_sipush (v := 20000) hx hb dX5_pass_31 (by decide) ?_
    refine lv_icmp_le (tgt := 48) hx hb dX5_pass_34 (by decide) (fun hc7 => ?_) (fun hc7 => ?_)
    · replace h := ite_t hc7 h
      refine lv_aload_n hx hb dX5_pass_48 rfl (lv_at hl 0 rfl) ?_
      refine rB_now hx hb hts hown (fun _ h => List.mem_cons_of_mem _ (List.mem_append_left _ (List.mem_append_left _ (List.mem_append_left _ (List.mem_append_left _ (List.mem_append_left _ (List.mem_append_left _ (List.mem_append_left _ (List.mem_append_left _ (List.mem_append_right _ h)))))))))) V (hts _ (List.mem_of_getElem? (i := 5) rfl)) dX5_pass_49 ?_
      refine lv_iload_n hx hb dX5_pass_52 rfl (lv_at hl 1 rfl) ?_
      obtain ⟨q8, hq8, h⟩ := bd_s h
      refine kBS (As := [.int a1]) (rest := []) ⟨hx, hb, hml, hown, hts⟩ Z V (c_X4_letGoBy (l := l) (D := D) (y := y) (ad := ad) hstk hq8) (cwV 1 hts gX5_pass_X4_letGoBy rfl rfl rfl (by decide +kernel) ⟨Nat.le_of_ble_eq_true rfl, Nat.le_of_ble_eq_true rfl⟩) (by omega) ((mB_0 y ad _ _ (by omega)).trans (mS_T y ad _)) rfl rfl hl.1 rfl (Nat.le_of_ble_eq_true rfl) ⟨Nat.zero_le _, Nat.zero_le _⟩ rfl dX5_pass_53 (fun H locs V => ?_)
      refine lv_aload_n hx hb dX5_pass_56 rfl (lv_at hl 0 rfl) ?_
      refine rB_now hx hb hts hown (fun _ h => List.mem_cons_of_mem _ (List.mem_append_left _ (List.mem_append_left _ (List.mem_append_left _ (List.mem_append_left _ (List.mem_append_left _ (List.mem_append_left _ (List.mem_append_left _ (List.mem_append_left _ (List.mem_append_right _ h)))))))))) V (hts _ (List.mem_of_getElem? (i := 5) rfl)) dX5_pass_57 ?_
      refine gB_T hx hb hts hown (fun _ h => List.mem_cons_of_mem _ (List.mem_append_left _ (List.mem_append_left _ (List.mem_append_left _ (List.mem_append_left _ (List.mem_append_left _ (List.mem_append_left _ (List.mem_append_left _ (List.mem_append_right _ h))))))))) V 7 28 (by decide) rfl (hts _ (List.mem_of_getElem? (i := 7) rfl)) dX5_pass_60 ?_
      obtain rfl := Option.some.inj h
      exact m_iretX hx hb hr hlk V (Nat.zero_le _) (Nat.zero_le _) rfl dX5_pass_63
    · replace h := ite_f hc7 h
      obtain rfl := Option.some.inj h
      exact m_throwW (text := "the time would be greater than 20000") hstk hx hb hown hlk hno Z V (by decide +kernel) (hts _ (List.mem_of_getElem? (i := 3) rfl)) (hts _ (List.mem_of_getElem? (i := 4) rfl)) (List.mem_of_getElem? (i := 30) rfl) (fun w h => hts w ((fun _ h => List.mem_cons_of_mem _ (List.mem_append_left _ (List.mem_append_right _ h))) w h)) (mB_RX5_43) (mG_RX5_39_43) (hl.1.trans hml.symm) dX5_pass_37 dX5_pass_40 dX5_pass_41 dX5_pass_44 dX5_pass_47 (Nat.le_of_ble_eq_true rfl) (Nat.le_of_ble_eq_true rfl) (Nat.le_refl _) (Nat.le_refl _) (Nat.le_refl _) (Nat.le_refl _) rfl
  · replace h := ite_f hc6 h
    obtain rfl := Option.some.inj h
    exact m_throwW (text := "seconds is not 1 to 1200") hstk hx hb hown hlk hno Z V (by decide +kernel) (hts _ (List.mem_of_getElem? (i := 1) rfl)) (hts _ (List.mem_of_getElem? (i := 2) rfl)) (List.mem_of_getElem? (i := 29) rfl) (fun w h => hts w ((fun _ h => List.mem_cons_of_mem _ (List.mem_append_left _ (List.mem_append_left _ (List.mem_append_right _ h)))) w h)) (mB_RX5_28) (mG_RX5_24_28) (hl.1.trans hml.symm) dX5_pass_11 dX5_pass_14 dX5_pass_15 dX5_pass_18 dX5_pass_21 (Nat.le_of_ble_eq_true rfl) (Nat.le_of_ble_eq_true rfl) (Nat.le_refl _) (Nat.le_refl _) (Nat.le_refl _) (Nat.le_refl _) rfl
-- X5_count
def f_X5_count (N : Nat) (σ τ : mSt) (a1 : Int32) : Option ((Int32 ⊕ String) × mSt × mSt) := if a1.toInt < 0 ∨ 10 < a1.toInt then some (.inr "java/lang/IndexOutOfBoundsException", σ, τ) else if a1 = 0 then some (.inl (σ 24 0), σ, τ) else if a1 = 1 then some (.inl (σ 21 0), σ, τ) else if a1 = 2 then some (.inl (σ 23 0), σ, τ) else if a1 = 3 then (f_X4_gamesRunning N σ).bind fun q28 => some (.inl q28.1, q28.2, τ) else if a1 = 4 then some (.inl (σ 22 0), σ, τ) else if a1 = 5 then (f_X4_openLoans N σ).bind fun q25 => some (.inl q25.1, q25.2, τ) else if a1 = 6 then some (.inl (σ 25 0), σ, τ) else if a1 = 7 then some (.inl (σ 26 0), σ, τ) else if a1 = 8 then (f_X4_currentPrice N σ).bind fun q21 => some (.inl q21.1, q21.2, τ) else if a1 = 9 then (f_X4_secondsOut N σ).bind fun q19 => some (.inl q19.1, q19.2, τ) else if a1 = 10 then some (.inl (σ 27 0), σ, τ) else none
set_option maxHeartbeats 4000000 in
set_option maxRecDepth 100000 in
theorem c_X5_count {l : Launch} {D : va_G} {y : Nat → ClassId} {ad : Nat → Nat} {N : Nat} {σ τ : mSt} {a1 : Int32} {q : (Int32 ⊕ String) × mSt × mSt} (hstk : l.stackTraces = false) (h : f_X5_count N σ τ a1 = some q) : mCX l yX5_count wsX5_count { frames := 6, cells := mOc q.1, slots := mOs q.1, locals := 82 } D y 161 ad mZ (mB y ad σ τ) [.ref (ad 160), .int a1] (mOi q.1) (mB y ad q.2.1 q.2.2) (mOc q.1) (mOs q.1) := by
  refine m_startX (cc := cX5_count) (maxL := 2) (ret := (some .int)) (by decide) rfl (Nat.le_of_ble_eq_true rfl) (fun p e s m args below meth c ls hB hno V Z hl => ?_)
  obtain ⟨hx, hb, hml, hown, hts, hr, hlk⟩ := id hB
  have hl : lv_has ls 2 [(0, .ref (ad 160)), (1, .int a1)] := hl
  rw [f_X5_count] at h
  refine lv_iload_n hx hb dX5_count_0 rfl (lv_at hl 1 rfl) ?_
  by_cases hd17 : a1.toInt < 0 ∨ 10 < a1.toInt
  · replace h := ite_t hd17 h
    refine lv_tableOut (tgt := 148) hx hb dX5_count_1 hd17 (by decide) ?_
    obtain rfl := Option.some.inj h
    exact m_throw (text := "what is not 0 to 10") hstk hx hb hown hlk hno Z V (by decide +kernel) (hts _ (List.mem_of_getElem? (i := 1) rfl)) (hts _ (List.mem_of_getElem? (i := 2) rfl)) (List.mem_of_getElem? (i := 28) rfl) (fun w h => hts w ((fun _ h => List.mem_cons_of_mem _ (List.mem_append_right _ h)) w h)) (mB_RX5_82) (mG_RX5_78_82) (hl.1.trans hml.symm) dX5_count_148 dX5_count_151 dX5_count_152 dX5_count_154 dX5_count_157 (Nat.le_of_ble_eq_true rfl) (Nat.le_of_ble_eq_true rfl) (Nat.le_refl _) (Nat.le_refl _) (Nat.le_refl _) (Nat.le_refl _) rfl
  · replace h := ite_f hd17 h
    by_cases hk32 : a1 = 0
    · replace h := ite_t hk32 h
      refine lv_tableIn (tgt := 60) hx hb dX5_count_1 (fun q => hd17 (Or.inl q)) (fun q => hd17 (Or.inr q)) (by rw [hk32]; rfl) (by decide) ?_
      refine lv_aload_n hx hb dX5_count_60 rfl (lv_at hl 0 rfl) ?_
      refine rB_now hx hb hts hown (fun _ h => List.mem_cons_of_mem _ (List.mem_append_left _ (List.mem_append_left _ (List.mem_append_left _ (List.mem_append_left _ (List.mem_append_right _ h)))))) V (hts _ (List.mem_of_getElem? (i := 3) rfl)) dX5_count_61 ?_
      refine gB_T hx hb hts hown (fun _ h => List.mem_cons_of_mem _ (List.mem_append_left _ (List.mem_append_left _ (List.mem_append_left _ (List.mem_append_right _ h))))) V 3 24 (by decide) rfl (hts _ (List.mem_of_getElem? (i := 4) rfl)) dX5_count_64 ?_
      obtain rfl := Option.some.inj h
      exact m_iretX hx hb hr hlk V (Nat.zero_le _) (Nat.zero_le _) rfl dX5_count_67
    · replace h := ite_f hk32 h
      by_cases hk31 : a1 = 1
      · replace h := ite_t hk31 h
        refine lv_tableIn (tgt := 68) hx hb dX5_count_1 (fun q => hd17 (Or.inl q)) (fun q => hd17 (Or.inr q)) (by rw [hk31]; rfl) (by decide) ?_
        refine lv_aload_n hx hb dX5_count_68 rfl (lv_at hl 0 rfl) ?_
        refine rB_now hx hb hts hown (fun _ h => List.mem_cons_of_mem _ (List.mem_append_left _ (List.mem_append_left _ (List.mem_append_left _ (List.mem_append_left _ (List.mem_append_right _ h)))))) V (hts _ (List.mem_of_getElem? (i := 3) rfl)) dX5_count_69 ?_
        refine gB_T hx hb hts hown (fun _ h => List.mem_cons_of_mem _ (List.mem_append_left _ (List.mem_append_left _ (List.mem_append_left _ (List.mem_append_right _ h))))) V 0 21 (by decide) rfl (hts _ (List.mem_of_getElem? (i := 5) rfl)) dX5_count_72 ?_
        obtain rfl := Option.some.inj h
        exact m_iretX hx hb hr hlk V (Nat.zero_le _) (Nat.zero_le _) rfl dX5_count_75
      · replace h := ite_f hk31 h
        by_cases hk30 : a1 = 2
        · replace h := ite_t hk30 h
          refine lv_tableIn (tgt := 76) hx hb dX5_count_1 (fun q => hd17 (Or.inl q)) (fun q => hd17 (Or.inr q)) (by rw [hk30]; rfl) (by decide) ?_
          refine lv_aload_n hx hb dX5_count_76 rfl (lv_at hl 0 rfl) ?_
          refine rB_now hx hb hts hown (fun _ h => List.mem_cons_of_mem _ (List.mem_append_left _ (List.mem_append_left _ (List.mem_append_left _ (List.mem_append_left _ (List.mem_append_right _ h)))))) V (hts _ (List.mem_of_getElem? (i := 3) rfl)) dX5_count_77 ?_
          refine gB_T hx hb hts hown (fun _ h => List.mem_cons_of_mem _ (List.mem_append_left _ (List.mem_append_left _ (List.mem_append_left _ (List.mem_append_right _ h))))) V 2 23 (by decide) rfl (hts _ (List.mem_of_getElem? (i := 6) rfl)) dX5_count_80 ?_
          obtain rfl := Option.some.inj h
          exact m_iretX hx hb hr hlk V (Nat.zero_le _) (Nat.zero_le _) rfl dX5_count_83
        · replace h := ite_f hk30 h
          by_cases hk29 : a1 = 3
          · replace h := ite_t hk29 h
            refine lv_tableIn (tgt := 84) hx hb dX5_count_1 (fun q => hd17 (Or.inl q)) (fun q => hd17 (Or.inr q)) (by rw [hk29]; rfl) (by decide) ?_
            refine lv_aload_n hx hb dX5_count_84 rfl (lv_at hl 0 rfl) ?_
            refine rB_now hx hb hts hown (fun _ h => List.mem_cons_of_mem _ (List.mem_append_left _ (List.mem_append_left _ (List.mem_append_left _ (List.mem_append_left _ (List.mem_append_right _ h)))))) V (hts _ (List.mem_of_getElem? (i := 3) rfl)) dX5_count_85 ?_
            obtain ⟨q28, hq28, h⟩ := bd_s h
            refine kBS (As := []) (rest := []) ⟨hx, hb, hml, hown, hts⟩ Z V (c_X4_gamesRunning (l := l) (D := D) (y := y) (ad := ad) hstk hq28) (cwV 0 hts gX5_count_X4_gamesRunning rfl rfl rfl (by decide +kernel) ⟨Nat.le_of_ble_eq_true rfl, Nat.le_of_ble_eq_true rfl⟩) (by omega) ((mB_0 y ad _ _ (by omega)).trans (mS_T y ad _)) rfl rfl hl.1 rfl (Nat.le_of_ble_eq_true rfl) ⟨Nat.zero_le _, Nat.zero_le _⟩ rfl dX5_count_88 (fun H locs V => ?_)
            obtain rfl := Option.some.inj h
            exact m_iretX hx hb hr hlk V (Nat.zero_le _) (Nat.zero_le _) rfl dX5_count_91
          · replace h := ite_f hk29 h
            by_cases hk27 : a1 = 4
            · replace h := ite_t hk27 h
              refine lv_tableIn (tgt := 92) hx hb dX5_count_1 (fun q => hd17 (Or.inl q)) (fun q => hd17 (Or.inr q)) (by rw [hk27]; rfl) (by decide) ?_
              refine lv_aload_n hx hb dX5_count_92 rfl (lv_at hl 0 rfl) ?_
              refine rB_now hx hb hts hown (fun _ h => List.mem_cons_of_mem _ (List.mem_append_left _ (List.mem_append_left _ (List.mem_append_left _ (List.mem_append_left _ (List.mem_append_right _ h)))))) V (hts _ (List.mem_of_getElem? (i := 3) rfl)) dX5_count_93 ?_
              refine gB_T hx hb hts hown (fun _ h => List.mem_cons_of_mem _ (List.mem_append_left _ (List.mem_append_left _ (List.mem_append_left _ (List.mem_append_right _ h))))) V 1 22 (by decide) rfl (hts _ (List.mem_of_getElem? (i := 7) rfl)) dX5_count_96 ?_
              obtain rfl := Option.some.inj h
              exact m_iretX hx hb hr hlk V (Nat.zero_le _) (Nat.zero_le _) rfl dX5_count_99
            · replace h := ite_f hk27 h
              by_cases hk26 : a1 = 5
              · replace h := ite_t hk26 h
                refine lv_tableIn (tgt := 100) hx hb dX5_count_1 (fun q => hd17 (Or.inl q)) (fun q => hd17 (Or.inr q)) (by rw [hk26]; rfl) (by decide) ?_
                refine lv_aload_n hx hb dX5_count_100 rfl (lv_at hl 0 rfl) ?_
                refine rB_now hx hb hts hown (fun _ h => List.mem_cons_of_mem _ (List.mem_append_left _ (List.mem_append_left _ (List.mem_append_left _ (List.mem_append_left _ (List.mem_append_right _ h)))))) V (hts _ (List.mem_of_getElem? (i := 3) rfl)) dX5_count_101 ?_
                obtain ⟨q25, hq25, h⟩ := bd_s h
                refine kBS (As := []) (rest := []) ⟨hx, hb, hml, hown, hts⟩ Z V (c_X4_openLoans (l := l) (D := D) (y := y) (ad := ad) hstk hq25) (cwV 0 hts gX5_count_X4_openLoans rfl rfl rfl (by decide +kernel) ⟨Nat.le_of_ble_eq_true rfl, Nat.le_of_ble_eq_true rfl⟩) (by omega) ((mB_0 y ad _ _ (by omega)).trans (mS_T y ad _)) rfl rfl hl.1 rfl (Nat.le_of_ble_eq_true rfl) ⟨Nat.zero_le _, Nat.zero_le _⟩ rfl dX5_count_104 (fun H locs V => ?_)
                obtain rfl := Option.some.inj h
                exact m_iretX hx hb hr hlk V (Nat.zero_le _) (Nat.zero_le _) rfl dX5_count_107
              · replace h := ite_f hk26 h
                by_cases hk24 : a1 = 6
                · replace h := ite_t hk24 h
                  refine lv_tableIn (tgt := 108) hx hb dX5_count_1 (fun q => hd17 (Or.inl q)) (fun q => hd17 (Or.inr q)) (by rw [hk24]; rfl) (by decide) ?_
                  refine lv_aload_n hx hb dX5_count_108 rfl (lv_at hl 0 rfl) ?_
                  refine rB_now hx hb hts hown (fun _ h => List.mem_cons_of_mem _ (List.mem_append_left _ (List.mem_append_left _ (List.mem_append_left _ (List.mem_append_left _ (List.mem_append_right _ h)))))) V (hts _ (List.mem_of_getElem? (i := 3) rfl)) dX5_count_109 ?_
                  refine gB_T hx hb hts hown (fun _ h => List.mem_cons_of_mem _ (List.mem_append_left _ (List.mem_append_left _ (List.mem_append_left _ (List.mem_append_right _ h))))) V 4 25 (by decide) rfl (hts _ (List.mem_of_getElem? (i := 8) rfl)) dX5_count_112 ?_
                  obtain rfl := Option.some.inj h
                  exact m_iretX hx hb hr hlk V (Nat.zero_le _) (Nat.zero_le _) rfl dX5_count_115
                · replace h := ite_f hk24 h
                  by_cases hk23 : a1 = 7
                  · replace h := ite_t hk23 h
                    refine lv_tableIn (tgt := 116) hx hb dX5_count_1 (fun q => hd17 (Or.inl q)) (fun q => hd17 (Or.inr q)) (by rw [hk23]; rfl) (by decide) ?_
                    refine lv_aload_n hx hb dX5_count_116 rfl (lv_at hl 0 rfl) ?_
                    refine rB_now hx hb hts hown (fun _ h => List.mem_cons_of_mem _ (List.mem_append_left _ (List.mem_append_left _ (List.mem_append_left _ (List.mem_append_left _ (List.mem_append_right _ h)))))) V (hts _ (List.mem_of_getElem? (i := 3) rfl)) dX5_count_117 ?_
                    refine gB_T hx hb hts hown (fun _ h => List.mem_cons_of_mem _ (List.mem_append_left _ (List.mem_append_left _ (List.mem_append_left _ (List.mem_append_right _ h))))) V 5 26 (by decide) rfl (hts _ (List.mem_of_getElem? (i := 9) rfl)) dX5_count_120 ?_
                    obtain rfl := Option.some.inj h
                    exact m_iretX hx hb hr hlk V (Nat.zero_le _) (Nat.zero_le _) rfl dX5_count_123
                  · replace h := ite_f hk23 h
                    by_cases hk22 : a1 = 8
                    · replace h := ite_t hk22 h
                      refine lv_tableIn (tgt := 124) hx hb dX5_count_1 (fun q => hd17 (Or.inl q)) (fun q => hd17 (Or.inr q)) (by rw [hk22]; rfl) (by decide) ?_
                      refine lv_aload_n hx hb dX5_count_124 rfl (lv_at hl 0 rfl) ?_
                      refine rB_now hx hb hts hown (fun _ h => List.mem_cons_of_mem _ (List.mem_append_left _ (List.mem_append_left _ (List.mem_append_left _ (List.mem_append_left _ (List.mem_append_right _ h)))))) V (hts _ (List.mem_of_getElem? (i := 3) rfl)) dX5_count_125 ?_
                      obtain ⟨q21, hq21, h⟩ := bd_s h
                      refine kBS (As := []) (rest := []) ⟨hx, hb, hml, hown, hts⟩ Z V (c_X4_currentPrice (l := l) (D := D) (y := y) (ad := ad) hstk hq21) (cwV 0 hts gX5_count_X4_currentPrice rfl rfl rfl (by decide +kernel) ⟨Nat.le_of_ble_eq_true rfl, Nat.le_of_ble_eq_true rfl⟩) (by omega) ((mB_0 y ad _ _ (by omega)).trans (mS_T y ad _)) rfl rfl hl.1 rfl (Nat.le_of_ble_eq_true rfl) ⟨Nat.zero_le _, Nat.zero_le _⟩ rfl dX5_count_128 (fun H locs V => ?_)
                      obtain rfl := Option.some.inj h
                      exact m_iretX hx hb hr hlk V (Nat.zero_le _) (Nat.zero_le _) rfl dX5_count_131
                    · replace h := ite_f hk22 h
                      by_cases hk20 : a1 = 9
                      · replace h := ite_t hk20 h
                        refine lv_tableIn (tgt := 132) hx hb dX5_count_1 (fun q => hd17 (Or.inl q)) (fun q => hd17 (Or.inr q)) (by rw [hk20]; rfl) (by decide) ?_
                        refine lv_aload_n hx hb dX5_count_132 rfl (lv_at hl 0 rfl) ?_
                        refine rB_now hx hb hts hown (fun _ h => List.mem_cons_of_mem _ (List.mem_append_left _ (List.mem_append_left _ (List.mem_append_left _ (List.mem_append_left _ (List.mem_append_right _ h)))))) V (hts _ (List.mem_of_getElem? (i := 3) rfl)) dX5_count_133 ?_
                        obtain ⟨q19, hq19, h⟩ := bd_s h
                        refine kBS (As := []) (rest := []) ⟨hx, hb, hml, hown, hts⟩ Z V (c_X4_secondsOut (l := l) (D := D) (y := y) (ad := ad) hstk hq19) (cwV 0 hts gX5_count_X4_secondsOut rfl rfl rfl (by decide +kernel) ⟨Nat.le_of_ble_eq_true rfl, Nat.le_of_ble_eq_true rfl⟩) (by omega) ((mB_0 y ad _ _ (by omega)).trans (mS_T y ad _)) rfl rfl hl.1 rfl (Nat.le_of_ble_eq_true rfl) ⟨Nat.zero_le _, Nat.zero_le _⟩ rfl dX5_count_136 (fun H locs V => ?_)
                        obtain rfl := Option.some.inj h
                        exact m_iretX hx hb hr hlk V (Nat.zero_le _) (Nat.zero_le _) rfl dX5_count_139
                      · replace h := ite_f hk20 h
                        by_cases hk18 : a1 = 10
                        · replace h := ite_t hk18 h
                          refine lv_tableIn (tgt := 140) hx hb dX5_count_1 (fun q => hd17 (Or.inl q)) (fun q => hd17 (Or.inr q)) (by rw [hk18]; rfl) (by decide) ?_
                          refine lv_aload_n hx hb dX5_count_140 rfl (lv_at hl 0 rfl) ?_
                          refine rB_now hx hb hts hown (fun _ h => List.mem_cons_of_mem _ (List.mem_append_left _ (List.mem_append_left _ (List.mem_append_left _ (List.mem_append_left _ (List.mem_append_right _ h)))))) V (hts _ (List.mem_of_getElem? (i := 3) rfl)) dX5_count_141 ?_
                          refine gB_T hx hb hts hown (fun _ h => List.mem_cons_of_mem _ (List.mem_append_left _ (List.mem_append_left _ (List.mem_append_left _ (List.mem_append_right _ h))))) V 6 27 (by decide) rfl (hts _ (List.mem_of_getElem? (i := 10) rfl)) dX5_count_144 ?_
                          obtain rfl := Option.some.inj h
                          exact m_iretX hx hb hr hlk V (Nat.zero_le _) (Nat.zero_le _) rfl dX5_count_147
                        · replace h := ite_f hk18 h
                          exact nomatch h
-- X5_foresee
def f_X5_foresee (N : Nat) (σ τ : mSt) (a1 : Int32) (a2 : Int32) : Option ((Int32 ⊕ String) × mSt × mSt) := (f_X5_isOutside N σ τ a1 1 2400).bind fun q12 => if q12.1 = 0 then (f_X5_isOutside N q12.2.1 q12.2.2 a2 0 3).bind fun q14 => if q14.1 = 0 then if ((q14.2.1 24 0) + a1) ≤ 20000 then (f_X4_copy N q14.2.1 q14.2.2).bind fun q17 => (f_X4_letGoBy N q17.2.2 a1).bind fun q18 => if a2.toInt < 0 ∨ 2 < a2.toInt then some (.inl (q18.2 29 0), q17.2.1, q18.2) else if a2 = 0 then some (.inl (q18.2 30 0), q17.2.1, q18.2) else if a2 = 1 then some (.inl (q18.2 31 0), q17.2.1, q18.2) else if a2 = 2 then some (.inl (q18.2 28 0), q17.2.1, q18.2) else none else some (.inr "java/lang/IllegalStateException", q14.2.1, q14.2.2) else some (.inr "java/lang/IndexOutOfBoundsException", q14.2.1, q14.2.2) else some (.inr "java/lang/IllegalArgumentException", q12.2.1, q12.2.2)
set_option maxHeartbeats 4000000 in
set_option maxRecDepth 100000 in
theorem c_X5_foresee {l : Launch} {D : va_G} {y : Nat → ClassId} {ad : Nat → Nat} {N : Nat} {σ τ : mSt} {a1 : Int32} {a2 : Int32} {q : (Int32 ⊕ String) × mSt × mSt} (hstk : l.stackTraces = false) (h : f_X5_foresee N σ τ a1 a2 = some q) : mCX l yX5_foresee wsX5_foresee { frames := 10, cells := mOc q.1, slots := mOs q.1, locals := 175 } D y 161 ad mZ (mB y ad σ τ) [.ref (ad 160), .int a1, .int a2] (mOi q.1) (mB y ad q.2.1 q.2.2) (mOc q.1) (mOs q.1) := by
  refine m_startX (cc := cX5_foresee) (maxL := 3) (ret := (some .int)) (by decide) rfl (Nat.le_of_ble_eq_true rfl) (fun p e s m args below meth c ls hB hno V Z hl => ?_)
  obtain ⟨hx, hb, hml, hown, hts, hr, hlk⟩ := id hB
  have hl : lv_has ls 3 [(0, .ref (ad 160)), (1, .int a1), (2, .int a2)] := hl
  rw [f_X5_foresee] at h
  refine lv_iload_n hx hb dX5_foresee_0 rfl (lv_at hl 1 rfl) ?_
  refine lv_iconst (v := 1) hx hb dX5_foresee_1 (by decide) ?_
  refine lv_sipush (v := 2400) hx hb dX5_foresee_2 (by decide) ?_
  obtain ⟨q12, hq12, h⟩ := bd_s h
  refine kBBs (As := [.int a1, .int 1, .int 2400]) (rest := []) ⟨hx, hb, hml, hown, hts⟩ Z V (c_X5_isOutside (l := l) (D := D) (y := y) (ad := ad) hstk hq12) (va_cwS 3 hts gX5_foresee_X5_isOutside rfl rfl rfl (by decide +kernel) ⟨Nat.le_of_ble_eq_true rfl, Nat.le_of_ble_eq_true rfl⟩) rfl hl.1 rfl (Nat.le_of_ble_eq_true rfl) ⟨Nat.zero_le _, Nat.zero_le _⟩ rfl dX5_foresee_5 (fun H locs V => ?_)
  refine lv_if_eq (tgt := 22) hx hb dX5_foresee_8 (by decide) (fun hc13 => ?_) (fun hc13 => ?_)
  · replace h := ite_t hc13 h
    refine lv_iload_n hx hb dX5_foresee_22 rfl (lv_at hl 2 rfl) ?_
    refine lv_iconst (v := 0) hx hb dX5_foresee_23 (by decide) ?_
    refine lv_iconst (v := 3) hx hb dX5_foresee_24 (by decide) ?_
    obtain ⟨q14, hq14, h⟩ := bd_s h
    refine kBBs (As := [.int a2, .int 0, .int 3]) (rest := []) ⟨hx, hb, hml, hown, hts⟩ Z V (c_X5_isOutside (l := l) (D := D) (y := y) (ad := ad) hstk hq14) (va_cwS 3 hts gX5_foresee_X5_isOutside rfl rfl rfl (by decide +kernel) ⟨Nat.le_of_ble_eq_true rfl, Nat.le_of_ble_eq_true rfl⟩) rfl hl.1 rfl (Nat.le_of_ble_eq_true rfl) ⟨Nat.zero_le _, Nat.zero_le _⟩ rfl dX5_foresee_25 (fun H locs V => ?_)
    refine lv_if_eq (tgt := 42) hx hb dX5_foresee_28 (by decide) (fun hc15 => ?_) (fun hc15 => ?_)
    · replace h := ite_t hc15 h
      refine lv_aload_n hx hb dX5_foresee_42 rfl (lv_at hl 0 rfl) ?_
      refine rB_now hx hb hts hown (fun _ h => List.mem_cons_of_mem _ (List.mem_append_left _ (List.mem_append_left _ (List.mem_append_left _ (List.mem_append_left _ (List.mem_append_left _ (List.mem_append_left _ (List.mem_append_left _ (List.mem_append_left _ (List.mem_append_left _ (List.mem_append_right _ h))))))))))) V (hts _ (List.mem_of_getElem? (i := 7) rfl)) dX5_foresee_43 ?_
      refine gB_T hx hb hts hown (fun _ h => List.mem_cons_of_mem _ (List.mem_append_left _ (List.mem_append_left _ (List.mem_append_left _ (List.mem_append_left _ (List.mem_append_left _ (List.mem_append_left _ (List.mem_append_left _ (List.mem_append_left _ (List.mem_append_right _ h)))))))))) V 3 24 (by decide) rfl (hts _ (List.mem_of_getElem? (i := 8) rfl)) dX5_foresee_46 ?_
      refine lv_iload_n hx hb dX5_foresee_49 rfl (lv_at hl 1 rfl) ?_
      refine lv_iadd hx hb dX5_foresee_50 ?_
      refine lv_sipush (v := 20000) hx hb dX5_foresee_51 (by decide) ?_
      refine lv_icmp_le (tgt := 68) hx hb dX5_foresee_54 (by decide) (fun hc16 => ?_) (fun hc16 => ?_)
      · replace h := ite_t hc16 h
        refine lv_aload_n hx hb dX5_foresee_68 rfl (lv_at hl 0 rfl) ?_
        refine rB_ahead hx hb hts hown (fun _ h => List.mem_cons_of_mem _ (List.mem_append_left _ (List.mem_append_left _ (List.mem_append_left _ (List.mem_append_left _ (List.mem_append_left _ (List.mem_append_left _ (List.mem_append_left _ (List.mem_append_left _ (List.mem_append_left _ (List.mem_append_right _ h))))))))))) V (hts _ (List.mem_of_getElem? (i := 9) rfl)) dX5_foresee_69 ?_
        refine lv_aload_n hx hb dX5_foresee_72 rfl (lv_at hl 0 rfl) ?_
        refine rB_now hx hb hts hown (fun _ h => List.mem_cons_of_mem _ (List.mem_append_left _ (List.mem_append_left _ (List.mem_append_left _ (List.mem_append_left _ (List.mem_append_left _ (List.mem_append_left _ (List.mem_append_left _ (List.mem_append_left _ (List.mem_append_left _ (List.mem_append_right _ h))))))))))) V (hts _ (List.mem_of_getElem? (i := 7) rfl)) dX5_foresee_73 ?_
        obtain ⟨q17, hq17, h⟩ := bd_s h
        refine kBB (As := [.ref (ad 0)]) (rest := []) ⟨hx, hb, hml, hown, hts⟩ Z V (c_X4_copy (l := l) (D := D) (y := y) (ad := ad) hstk hq17) (cwV 1 hts gX5_foresee_X4_copy rfl rfl rfl (by decide +kernel) ⟨Nat.le_of_ble_eq_true rfl, Nat.le_of_ble_eq_true rfl⟩) (by omega) ((mB_1 y ad _ _ (by omega)).trans (mS_T y (fun k => ad (80 + k)) _)) rfl rfl hl.1 rfl (Nat.le_of_ble_eq_true rfl) ⟨Nat.zero_le _, Nat.zero_le _⟩ rfl dX5_foresee_76 (fun H locs V => ?_)
        refine lv_aload_n hx hb dX5_foresee_79 rfl (lv_at hl 0 rfl) ?_
        refine rB_ahead hx hb hts hown (fun _ h => List.mem_cons_of_mem _ (List.mem_append_left _ (List.mem_append_left _ (List.mem_append_left _ (List.mem_append_left _ (List.mem_append_left _ (List.mem_append_left _ (List.mem_append_left _ (List.mem_append_left _ (List.mem_append_left _ (List.mem_append_right _ h))))))))))) V (hts _ (List.mem_of_getElem? (i := 9) rfl)) dX5_foresee_80 ?_
        refine lv_iload_n hx hb dX5_foresee_83 rfl (lv_at hl 1 rfl) ?_
        obtain ⟨q18, hq18, h⟩ := bd_s h
        refine kCS (As := [.int a1]) (rest := []) ⟨hx, hb, hml, hown, hts⟩ Z V (c_X4_letGoBy (l := l) (D := D) (y := y) (ad := fun k => ad (80 + k)) hstk hq18) (cwV 1 hts gX5_foresee_X4_letGoBy rfl rfl rfl (by decide +kernel) ⟨Nat.le_of_ble_eq_true rfl, Nat.le_of_ble_eq_true rfl⟩) (by omega) ((mB_1 y ad _ _ (by omega)).trans (mS_T y (fun k => ad (80 + k)) _)) rfl rfl hl.1 rfl (Nat.le_of_ble_eq_true rfl) ⟨Nat.zero_le _, Nat.zero_le _⟩ rfl dX5_foresee_84 (fun H locs V => ?_)
        refine lv_iload_n hx hb dX5_foresee_87 rfl (lv_at hl 2 rfl) ?_
        by_cases hd19 : a2.toInt < 0 ∨ 2 < a2.toInt
        · replace h := ite_t hd19 h
          refine lv_tableOut (tgt := 140) hx hb dX5_foresee_88 hd19 (by decide) ?_
          refine lv_aload_n hx hb dX5_foresee_140 rfl (lv_at hl 0 rfl) ?_
          refine rB_ahead hx hb hts hown (fun _ h => List.mem_cons_of_mem _ (List.mem_append_left _ (List.mem_append_left _ (List.mem_append_left _ (List.mem_append_left _ (List.mem_append_left _ (List.mem_append_left _ (List.mem_append_left _ (List.mem_append_left _ (List.mem_append_left _ (List.mem_append_right _ h))))))))))) V (hts _ (List.mem_of_getElem? (i := 9) rfl)) dX5_foresee_141 ?_
          refine gC_T hx hb hts hown (fun _ h => List.mem_cons_of_mem _ (List.mem_append_left _ (List.mem_append_left _ (List.mem_append_left _ (List.mem_append_left _ (List.mem_append_left _ (List.mem_append_left _ (List.mem_append_left _ (List.mem_append_left _ (List.mem_append_right _ h)))))))))) V 8 29 (by decide) rfl (hts _ (List.mem_of_getElem? (i := 13) rfl)) dX5_foresee_144 ?_
          obtain rfl := Option.some.inj h
          exact m_iretX hx hb hr hlk V (Nat.zero_le _) (Nat.zero_le _) rfl dX5_foresee_147
        · replace h := ite_f hd19 h
          by_cases hk22 : a2 = 0
          · replace h := ite_t hk22 h
            refine lv_tableIn (tgt := 116) hx hb dX5_foresee_88 (fun q => hd19 (Or.inl q)) (fun q => hd19 (Or.inr q)) (by rw [hk22]; rfl) (by decide) ?_
            refine lv_aload_n hx hb dX5_foresee_116 rfl (lv_at hl 0 rfl) ?_
            refine rB_ahead hx hb hts hown (fun _ h => List.mem_cons_of_mem _ (List.mem_append_left _ (List.mem_append_left _ (List.mem_append_left _ (List.mem_append_left _ (List.mem_append_left _ (List.mem_append_left _ (List.mem_append_left _ (List.mem_append_left _ (List.mem_append_left _ (List.mem_append_right _ h))))))))))) V (hts _ (List.mem_of_getElem? (i := 9) rfl)) dX5_foresee_117 ?_
            refine gC_T hx hb hts hown (fun _ h => List.mem_cons_of_mem _ (List.mem_append_left _ (List.mem_append_left _ (List.mem_append_left _ (List.mem_append_left _ (List.mem_append_left _ (List.mem_append_left _ (List.mem_append_left _ (List.mem_append_left _ (List.mem_append_right _ h)))))))))) V 9 30 (by decide) rfl (hts _ (List.mem_of_getElem? (i := 10) rfl)) dX5_foresee_120 ?_
            obtain rfl := Option.some.inj h
            exact m_iretX hx hb hr hlk V (Nat.zero_le _) (Nat.zero_le _) rfl dX5_foresee_123
          · replace h := ite_f hk22 h
            by_cases hk21 : a2 = 1
            · replace h := ite_t hk21 h
              refine lv_tableIn (tgt := 124) hx hb dX5_foresee_88 (fun q => hd19 (Or.inl q)) (fun q => hd19 (Or.inr q)) (by rw [hk21]; rfl) (by decide) ?_
              refine lv_aload_n hx hb dX5_foresee_124 rfl (lv_at hl 0 rfl) ?_
              refine rB_ahead hx hb hts hown (fun _ h => List.mem_cons_of_mem _ (List.mem_append_left _ (List.mem_append_left _ (List.mem_append_left _ (List.mem_append_left _ (List.mem_append_left _ (List.mem_append_left _ (List.mem_append_left _ (List.mem_append_left _ (List.mem_append_left _ (List.mem_append_right _ h))))))))))) V (hts _ (List.mem_of_getElem? (i := 9) rfl)) dX5_foresee_125 ?_
              refine gC_T hx hb hts hown (fun _ h => List.mem_cons_of_mem _ (List.mem_append_left _ (List.mem_append_left _ (List.mem_append_left _ (List.mem_append_left _ (List.mem_append_left _ (List.mem_append_left _ (List.mem_append_left _ (List.mem_append_left _ (List.mem_append_right _ h)))))))))) V 10 31 (by decide) rfl (hts _ (List.mem_of_getElem? (i := 11) rfl)) dX5_foresee_128 ?_
              obtain rfl := Option.some.inj h
              exact m_iretX hx hb hr hlk V (Nat.zero_le _) (Nat.zero_le _) rfl dX5_foresee_131
            · replace h := ite_f hk21 h
              by_cases hk20 : a2 = 2
              · replace h := ite_t hk20 h
                refine lv_tableIn (tgt := 132) hx hb dX5_foresee_88 (fun q => hd19 (Or.inl q)) (fun q => hd19 (Or.inr q)) (by rw [hk20]; rfl) (by decide) ?_
                refine lv_aload_n hx hb dX5_foresee_132 rfl (lv_at hl 0 rfl) ?_
                refine rB_ahead hx hb hts hown (fun _ h => List.mem_cons_of_mem _ (List.mem_append_left _ (List.mem_append_left _ (List.mem_append_left _ (List.mem_append_left _ (List.mem_append_left _ (List.mem_append_left _ (List.mem_append_left _ (List.mem_append_left _ (List.mem_append_left _ (List.mem_append_right _ h))))))))))) V (hts _ (List.mem_of_getElem? (i := 9) rfl)) dX5_foresee_133 ?_
                refine gC_T hx hb hts hown (fun _ h => List.mem_cons_of_mem _ (List.mem_append_left _ (List.mem_append_left _ (List.mem_append_left _ (List.mem_append_left _ (List.mem_append_left _ (List.mem_append_left _ (List.mem_append_left _ (List.mem_append_left _ (List.mem_append_right _ h)))))))))) V 7 28 (by decide) rfl (hts _ (List.mem_of_getElem? (i := 12) rfl)) dX5_foresee_136 ?_
                obtain rfl := Option.some.inj h
                exact m_iretX hx hb hr hlk V (Nat.zero_le _) (Nat.zero_le _) rfl dX5_foresee_139
              · replace h := ite_f hk20 h
                exact nomatch h
      · replace h := ite_f hc16 h
        obtain rfl := Option.some.inj h
        exact m_throwW (text := "the time would be greater than 20000") hstk hx hb hown hlk hno Z V (by decide +kernel) (hts _ (List.mem_of_getElem? (i := 5) rfl)) (hts _ (List.mem_of_getElem? (i := 6) rfl)) (List.mem_of_getElem? (i := 30) rfl) (fun w h => hts w ((fun _ h => List.mem_cons_of_mem _ (List.mem_append_left _ (List.mem_append_right _ h))) w h)) (mB_RX5_43) (mG_RX5_39_43) (hl.1.trans hml.symm) dX5_foresee_57 dX5_foresee_60 dX5_foresee_61 dX5_foresee_64 dX5_foresee_67 (Nat.le_of_ble_eq_true rfl) (Nat.le_of_ble_eq_true rfl) (Nat.le_refl _) (Nat.le_refl _) (Nat.le_refl _) (Nat.le_refl _) rfl
    · replace h := ite_f hc15 h
      obtain rfl := Option.some.inj h
      exact m_throwW (text := "what is not 0 to 3") hstk hx hb hown hlk hno Z V (by decide +kernel) (hts _ (List.mem_of_getElem? (i := 3) rfl)) (hts _ (List.mem_of_getElem? (i := 4) rfl)) (List.mem_of_getElem? (i := 32) rfl) (fun w h => hts w ((fun _ h => List.mem_cons_of_mem _ (List.mem_append_left _ (List.mem_append_left _ (List.mem_append_right _ h)))) w h)) (mB_RX5_82) (mG_RX5_78_82) (hl.1.trans hml.symm) dX5_foresee_31 dX5_foresee_34 dX5_foresee_35 dX5_foresee_38 dX5_foresee_41 (Nat.le_of_ble_eq_true rfl) (Nat.le_of_ble_eq_true rfl) (Nat.le_refl _) (Nat.le_refl _) (Nat.le_refl _) (Nat.le_refl _) rfl
  · replace h := ite_f hc13 h
    obtain rfl := Option.some.inj h
    exact m_throwW (text := "seconds is not 1 to 2400") hstk hx hb hown hlk hno Z V (by decide +kernel) (hts _ (List.mem_of_getElem? (i := 1) rfl)) (hts _ (List.mem_of_getElem? (i := 2) rfl)) (List.mem_of_getElem? (i := 31) rfl) (fun w h => hts w ((fun _ h => List.mem_cons_of_mem _ (List.mem_append_left _ (List.mem_append_left _ (List.mem_append_left _ (List.mem_append_right _ h))))) w h)) (mB_RX5_28) (mG_RX5_24_28) (hl.1.trans hml.symm) dX5_foresee_11 dX5_foresee_14 dX5_foresee_15 dX5_foresee_18 dX5_foresee_21 (Nat.le_of_ble_eq_true rfl) (Nat.le_of_ble_eq_true rfl) (Nat.le_refl _) (Nat.le_refl _) (Nat.le_refl _) (Nat.le_refl _) rfl
-- X5_leader
def f_X5_leader_2 (N : Nat) (a1 : Int32)  : Nat → mSt → mSt → Int32 → Option ((Int32 ⊕ String) × mSt × mSt)
  | 0, _, _, _ => none
  | n + 1, σ, τ, v2 => if (σ 21 0) ≤ v2 then some (.inr "java/lang/IndexOutOfBoundsException", σ, τ) else (f_X4_playersAheadOf N σ v2).bind fun q5 => if q5.1 = a1 then some (.inl v2, q5.2, τ) else f_X5_leader_2 N a1 n q5.2 τ (v2 + 1)
set_option maxHeartbeats 4000000 in
set_option maxRecDepth 100000 in
theorem w_X5_leader_2 {l : Launch} {D : va_G} {y : Nat → ClassId} {ad : Nat → Nat} {N : Nat} {p : Program} {e : Env} {s : State} {m : MethodId} {args : Array Value} {below : List Frame} {meth : Method} {c : Code} (hstk : l.stackTraces = false) (Z : mZ (mFree 161 ad s.heap.size) s) (hB : mBd p s m args meth c cX5_leader 3 wsX5_leader RX5 (some .int)) (hno : ∀ x ∈ c.exceptionTable.toList, False) {a1 : Int32} {q : (Int32 ⊕ String) × mSt × mSt}   : ∀ (n : Nat) (σ τ : mSt) (v2 : Int32), f_X5_leader_2 N a1  n σ τ v2 = some q → ∀ (H : Heap) (locs : List Loc) (ls : Array Slot), mV D y (mFree 161 ad s.heap.size) s s.heap H locs 161 ad (mB y ad σ τ) → lv_has ls 3 [(0, .ref (ad 160)), (1, .int a1), (2, .int v2)] → W p l e { frames := 8, cells := mOc q.1, slots := mOs q.1, locals := 129 } s m args below meth c H locs 0 0 (vx_MQ below (mQo (mOi q.1) D 161 ad (mB y ad q.2.1 q.2.2) s.heap.size) (mXo (mOi q.1) D 161 ad (mB y ad q.2.1 q.2.2) s.heap.size) args s (mOc q.1) (mOs q.1) (mFree 161 ad s.heap.size)) (F0 m 2 ls []) := by
  obtain ⟨hx, hb, hml, hown, hts, hr, hlk⟩ := id hB
  intro n
  induction n with
  | zero =>
    intro σ τ v2 h
    exact nomatch h
  | succ n ih =>
    intro σ τ v2 h H locs ls V hl
    rw [f_X5_leader_2] at h
    refine lv_iload_n hx hb dX5_leader_2 rfl (lv_at hl 2 rfl) ?_
    refine lv_aload_n hx hb dX5_leader_3 rfl (lv_at hl 0 rfl) ?_
    refine rB_now hx hb hts hown (fun _ h => List.mem_cons_of_mem _ (List.mem_append_left _ (List.mem_append_left _ (List.mem_append_left _ (List.mem_append_left _ (List.mem_append_right _ h)))))) V (hts _ (List.mem_of_getElem? (i := 3) rfl)) dX5_leader_4 ?_
    refine gB_T hx hb hts hown (fun _ h => List.mem_cons_of_mem _ (List.mem_append_left _ (List.mem_append_left _ (List.mem_append_left _ (List.mem_append_right _ h))))) V 0 21 (by decide) rfl (hts _ (List.mem_of_getElem? (i := 4) rfl)) dX5_leader_7 ?_
    refine lv_icmp_ge (tgt := 33) hx hb dX5_leader_10 (by decide) (fun hc4 => ?_) (fun hc4 => ?_)
    · replace h := ite_t hc4 h
      obtain rfl := Option.some.inj h
      exact m_throwW (text := "there are not so many players") hstk hx hb hown hlk hno Z V (by decide +kernel) (hts _ (List.mem_of_getElem? (i := 1) rfl)) (hts _ (List.mem_of_getElem? (i := 2) rfl)) (List.mem_of_getElem? (i := 33) rfl) (fun w h => hts w ((fun _ h => List.mem_cons_of_mem _ (List.mem_append_left _ (List.mem_append_right _ h))) w h)) (mB_RX5_82) (mG_RX5_78_82) (hl.1.trans hml.symm) dX5_leader_33 dX5_leader_36 dX5_leader_37 dX5_leader_40 dX5_leader_43 (Nat.le_of_ble_eq_true rfl) (Nat.le_of_ble_eq_true rfl) (Nat.le_refl _) (Nat.le_refl _) (Nat.le_refl _) (Nat.le_refl _) rfl
    · replace h := ite_f hc4 h
      refine lv_aload_n hx hb dX5_leader_13 rfl (lv_at hl 0 rfl) ?_
      refine rB_now hx hb hts hown (fun _ h => List.mem_cons_of_mem _ (List.mem_append_left _ (List.mem_append_left _ (List.mem_append_left _ (List.mem_append_left _ (List.mem_append_right _ h)))))) V (hts _ (List.mem_of_getElem? (i := 3) rfl)) dX5_leader_14 ?_
      refine lv_iload_n hx hb dX5_leader_17 rfl (lv_at hl 2 rfl) ?_
      obtain ⟨q5, hq5, h⟩ := bd_s h
      refine kBS (As := [.int v2]) (rest := []) ⟨hx, hb, hml, hown, hts⟩ Z V (c_X4_playersAheadOf (l := l) (D := D) (y := y) (ad := ad) hstk hq5) (cwV 1 hts gX5_leader_X4_playersAheadOf rfl rfl rfl (by decide +kernel) ⟨Nat.le_of_ble_eq_true rfl, Nat.le_of_ble_eq_true rfl⟩) (by omega) ((mB_0 y ad _ _ (by omega)).trans (mS_T y ad _)) rfl rfl hl.1 rfl (Nat.le_of_ble_eq_true rfl) ⟨Nat.zero_le _, Nat.zero_le _⟩ rfl dX5_leader_18 (fun H locs V => ?_)
      refine lv_iload_n hx hb dX5_leader_21 rfl (lv_at hl 1 rfl) ?_
      refine lv_icmp_ne (tgt := 27) hx hb dX5_leader_22 (by decide) (fun hc6 => ?_) (fun hc6 => ?_)
      · replace h := ite_f hc6 h
        refine lv_iinc (v := v2 + 1) (lv' := [(2, .int (v2 + 1)), (0, .ref (ad 160)), (1, .int a1)]) hx hb dX5_leader_27 hl (k := 2) rfl rfl (by decide) rfl (fun ls hl => ?_)
        refine lv_goto (tgt := 2) hx hb dX5_leader_30 (by decide) ?_
        exact ih _ _ _ h _ _ _ V (lv_sub hl [1, 2, 0] rfl)
      · replace h := ite_t hc6 h
        refine lv_iload_n hx hb dX5_leader_25 rfl (lv_at hl 2 rfl) ?_
        obtain rfl := Option.some.inj h
        exact m_iretX hx hb hr hlk V (Nat.zero_le _) (Nat.zero_le _) rfl dX5_leader_26
def f_X5_leader (N : Nat) (σ τ : mSt) (a1 : Int32) : Option ((Int32 ⊕ String) × mSt × mSt) := f_X5_leader_2 N a1 N σ τ 0
set_option maxHeartbeats 4000000 in
set_option maxRecDepth 100000 in
theorem c_X5_leader {l : Launch} {D : va_G} {y : Nat → ClassId} {ad : Nat → Nat} {N : Nat} {σ τ : mSt} {a1 : Int32} {q : (Int32 ⊕ String) × mSt × mSt} (hstk : l.stackTraces = false) (h : f_X5_leader N σ τ a1 = some q) : mCX l yX5_leader wsX5_leader { frames := 8, cells := mOc q.1, slots := mOs q.1, locals := 129 } D y 161 ad mZ (mB y ad σ τ) [.ref (ad 160), .int a1] (mOi q.1) (mB y ad q.2.1 q.2.2) (mOc q.1) (mOs q.1) := by
  refine m_startX (cc := cX5_leader) (maxL := 3) (ret := (some .int)) (by decide) rfl (Nat.le_of_ble_eq_true rfl) (fun p e s m args below meth c ls hB hno V Z hl => ?_)
  obtain ⟨hx, hb, hml, hown, hts, hr, hlk⟩ := id hB
  have hl : lv_has ls 3 [(0, .ref (ad 160)), (1, .int a1)] := hl
  rw [f_X5_leader] at h
  refine lv_iconst (v := 0) hx hb dX5_leader_0 (by decide) ?_
  refine lv_istore_n (lv' := [(2, .int 0), (0, .ref (ad 160)), (1, .int a1)]) hx hb dX5_leader_1 rfl hl (by decide) rfl (fun ls hl => ?_)
  exact w_X5_leader_2 hstk Z hB hno _ _ _ _ h _ _ _ V (lv_sub hl [1, 2, 0] rfl)
-- X5_needs
def f_X5_needs_69 (N : Nat) (a1 : Int32) (a2 : Int32)  : Nat → mSt → mSt → Int32 → Int32 → Option ((Int32 ⊕ String) × mSt × mSt)
  | 0, _, _, _, _ => none
  | n + 1, σ, τ, v3, v6 => if 16 ≤ v6 then some (.inl v3, σ, τ) else if mIn v6 16 then (f_X0_runs N σ v6.toNatClampNeg).bind fun q15 => if q15.1 = 0 then f_X5_needs_69 N a1 a2 n q15.2 τ v3 (v6 + 1) else (f_X0_mover N q15.2 v6.toNatClampNeg).bind fun q17 => if q17.1 < 32 then if (q17.2 18 q17.1) = a1 then (f_X0_missingFor N q17.2 v6.toNatClampNeg a2).bind fun q20 => f_X5_needs_69 N a1 a2 n q20.2 τ (v3 + q20.1) (v6 + 1) else f_X5_needs_69 N a1 a2 n q17.2 τ v3 (v6 + 1) else none else none
set_option maxHeartbeats 4000000 in
set_option maxRecDepth 100000 in
theorem w_X5_needs_69 {l : Launch} {D : va_G} {y : Nat → ClassId} {ad : Nat → Nat} {N : Nat} {p : Program} {e : Env} {s : State} {m : MethodId} {args : Array Value} {below : List Frame} {meth : Method} {c : Code} (hstk : l.stackTraces = false) (Z : mZ (mFree 161 ad s.heap.size) s) (hB : mBd p s m args meth c cX5_needs 8 wsX5_needs RX5 (some .int)) (hno : ∀ x ∈ c.exceptionTable.toList, False) {a1 : Int32} {a2 : Int32} {q : (Int32 ⊕ String) × mSt × mSt}   : ∀ (n : Nat) (σ τ : mSt) (v3 : Int32) (v6 : Int32), f_X5_needs_69 N a1 a2  n σ τ v3 v6 = some q → ∀ (H : Heap) (locs : List Loc) (ls : Array Slot), mV D y (mFree 161 ad s.heap.size) s s.heap H locs 161 ad (mB y ad σ τ) → lv_has ls 8 [(1, .int a1), (2, .int a2), (3, .int v3), (4, .ref (ad 3)), (5, .int 16), (6, .int v6)] → W p l e { frames := 6, cells := mOc q.1, slots := mOs q.1, locals := 82 } s m args below meth c H locs 0 0 (vx_MQ below (mQo (mOi q.1) D 161 ad (mB y ad q.2.1 q.2.2) s.heap.size) (mXo (mOi q.1) D 161 ad (mB y ad q.2.1 q.2.2) s.heap.size) args s (mOc q.1) (mOs q.1) (mFree 161 ad s.heap.size)) (F0 m 69 ls []) := by
  obtain ⟨hx, hb, hml, hown, hts, hr, hlk⟩ := id hB
  intro n
  induction n with
  | zero =>
    intro σ τ v3 v6 h
    exact nomatch h
  | succ n ih =>
    intro σ τ v3 v6 h H locs ls V hl
    rw [f_X5_needs_69] at h
    refine lv_iload hx hb dX5_needs_69 (lv_at hl 5 rfl) ?_
    refine lv_iload hx hb dX5_needs_71 (lv_at hl 4 rfl) ?_
    refine lv_icmp_ge (tgt := 118) hx hb dX5_needs_73 (by decide) (fun hc13 => ?_) (fun hc13 => ?_)
    · replace h := ite_t hc13 h
      refine lv_iload_n hx hb dX5_needs_118 rfl (lv_at hl 2 rfl) ?_
      obtain rfl := Option.some.inj h
      exact m_iretX hx hb hr hlk V (Nat.zero_le _) (Nat.zero_le _) rfl dX5_needs_119
    · replace h := ite_f hc13 h
      refine lv_aload hx hb dX5_needs_76 (lv_at hl 3 rfl) ?_
      refine lv_iload hx hb dX5_needs_78 (lv_at hl 5 rfl) ?_
      obtain ⟨hi14, h⟩ := gd_s h
      refine aB_G hx hb V hi14 dX5_needs_80 ?_
      refine lv_astore (lv' := [(7, .ref (ad (32 + v6.toNatClampNeg))), (1, .int a1), (2, .int a2), (3, .int v3), (4, .ref (ad 3)), (5, .int 16), (6, .int v6)]) hx hb dX5_needs_81 hl (by decide) rfl (fun ls hl => ?_)
      refine lv_aload hx hb dX5_needs_83 (lv_at hl 0 rfl) ?_
      obtain ⟨q15, hq15, h⟩ := bd_s h
      refine kBS (As := []) (rest := []) ⟨hx, hb, hml, hown, hts⟩ Z V (c_X0_runs (l := l) (D := D) (y := y) (ad := ad) hstk hq15) (cwV 0 hts gX5_needs_X0_runs rfl rfl rfl (by decide +kernel) ⟨Nat.le_of_ble_eq_true rfl, Nat.le_of_ble_eq_true rfl⟩) (by omega) ((mB_0 y ad _ _ (by omega)).trans (mS_G y ad _ hi14.2)) rfl rfl hl.1 rfl (Nat.le_of_ble_eq_true rfl) ⟨Nat.zero_le _, Nat.zero_le _⟩ rfl dX5_needs_85 (fun H locs V => ?_)
      refine lv_if_eq (tgt := 112) hx hb dX5_needs_88 (by decide) (fun hc16 => ?_) (fun hc16 => ?_)
      · replace h := ite_t hc16 h
        refine lv_iinc (v := v6 + 1) (lv' := [(6, .int (v6 + 1)), (7, .ref (ad (32 + v6.toNatClampNeg))), (1, .int a1), (2, .int a2), (3, .int v3), (4, .ref (ad 3)), (5, .int 16)]) hx hb dX5_needs_112 hl (k := 6) rfl rfl (by decide) rfl (fun ls hl => ?_)
        refine lv_goto (tgt := 69) hx hb dX5_needs_115 (by decide) ?_
        exact ih _ _ _ _ h _ _ _ V (lv_sub hl [2, 3, 4, 5, 6, 0] rfl)
      · replace h := ite_f hc16 h
        refine lv_aload hx hb dX5_needs_91 (lv_at hl 0 rfl) ?_
        obtain ⟨q17, hq17, h⟩ := bd_s h
        obtain ⟨hg18, h⟩ := gd_s h
        refine kBS (As := []) (rest := []) ⟨hx, hb, hml, hown, hts⟩ Z V (c_X0_mover (l := l) (D := D) (y := y) (ad := ad) hstk hq17) (cwV 0 hts gX5_needs_X0_mover rfl rfl rfl (by decide +kernel) ⟨Nat.le_of_ble_eq_true rfl, Nat.le_of_ble_eq_true rfl⟩) (by omega) ((mB_0 y ad _ _ (by omega)).trans (mS_G y ad _ hi14.2)) rfl rfl hl.1 rfl (Nat.le_of_ble_eq_true rfl) ⟨Nat.zero_le _, Nat.zero_le _⟩ rfl dX5_needs_93 (fun H locs V => ?_)
        refine gB_S hx hb hts hown (fun _ h => List.mem_cons_of_mem _ (List.mem_append_left _ (List.mem_append_left _ (List.mem_append_left _ (List.mem_append_right _ h))))) V hg18 0 18 (by decide) rfl (hts _ (List.mem_of_getElem? (i := 8) rfl)) dX5_needs_96 ?_
        refine lv_iload_n hx hb dX5_needs_99 rfl (lv_at hl 1 rfl) ?_
        refine lv_icmp_ne (tgt := 112) hx hb dX5_needs_100 (by decide) (fun hc19 => ?_) (fun hc19 => ?_)
        · replace h := ite_f hc19 h
          refine lv_iinc (v := v6 + 1) (lv' := [(6, .int (v6 + 1)), (7, .ref (ad (32 + v6.toNatClampNeg))), (1, .int a1), (2, .int a2), (3, .int v3), (4, .ref (ad 3)), (5, .int 16)]) hx hb dX5_needs_112 hl (k := 6) rfl rfl (by decide) rfl (fun ls hl => ?_)
          refine lv_goto (tgt := 69) hx hb dX5_needs_115 (by decide) ?_
          exact ih _ _ _ _ h _ _ _ V (lv_sub hl [2, 3, 4, 5, 6, 0] rfl)
        · replace h := ite_t hc19 h
          refine lv_iload_n hx hb dX5_needs_103 rfl (lv_at hl 3 rfl) ?_
          refine lv_aload hx hb dX5_needs_104 (lv_at hl 0 rfl) ?_
          refine lv_iload_n hx hb dX5_needs_106 rfl (lv_at hl 2 rfl) ?_
          obtain ⟨q20, hq20, h⟩ := bd_s h
          refine kBS (As := [.int a2]) (rest := [.int v3]) ⟨hx, hb, hml, hown, hts⟩ Z V (c_X0_missingFor (l := l) (D := D) (y := y) (ad := ad) hstk hq20) (cwV 1 hts gX5_needs_X0_missingFor rfl rfl rfl (by decide +kernel) ⟨Nat.le_of_ble_eq_true rfl, Nat.le_of_ble_eq_true rfl⟩) (by omega) ((mB_0 y ad _ _ (by omega)).trans (mS_G y ad _ hi14.2)) rfl rfl hl.1 rfl (Nat.le_of_ble_eq_true rfl) ⟨Nat.zero_le _, Nat.zero_le _⟩ rfl dX5_needs_107 (fun H locs V => ?_)
          refine lv_iadd hx hb dX5_needs_110 ?_
          refine lv_istore_n (lv' := [(3, .int (v3 + q20.1)), (7, .ref (ad (32 + v6.toNatClampNeg))), (1, .int a1), (2, .int a2), (4, .ref (ad 3)), (5, .int 16), (6, .int v6)]) hx hb dX5_needs_111 rfl hl (by decide) rfl (fun ls hl => ?_)
          refine lv_iinc (v := v6 + 1) (lv' := [(6, .int (v6 + 1)), (3, .int (v3 + q20.1)), (7, .ref (ad (32 + v6.toNatClampNeg))), (1, .int a1), (2, .int a2), (4, .ref (ad 3)), (5, .int 16)]) hx hb dX5_needs_112 hl (k := 6) rfl rfl (by decide) rfl (fun ls hl => ?_)
          refine lv_goto (tgt := 69) hx hb dX5_needs_115 (by decide) ?_
          exact ih _ _ _ _ h _ _ _ V (lv_sub hl [3, 4, 1, 5, 6, 0] rfl)
def f_X5_needs (N : Nat) (σ τ : mSt) (a1 : Int32) (a2 : Int32) : Option ((Int32 ⊕ String) × mSt × mSt) := (f_X5_isOutside N σ τ a1 0 ((σ 21 0) - 1)).bind fun q21 => if q21.1 = 0 then (f_X5_isOutside N q21.2.1 q21.2.2 a2 1 600).bind fun q23 => if q23.1 = 0 then f_X5_needs_69 N a1 a2 N q23.2.1 q23.2.2 0 0 else some (.inr "java/lang/IllegalArgumentException", q23.2.1, q23.2.2) else some (.inr "java/lang/IndexOutOfBoundsException", q21.2.1, q21.2.2)
set_option maxHeartbeats 4000000 in
set_option maxRecDepth 100000 in
theorem c_X5_needs {l : Launch} {D : va_G} {y : Nat → ClassId} {ad : Nat → Nat} {N : Nat} {σ τ : mSt} {a1 : Int32} {a2 : Int32} {q : (Int32 ⊕ String) × mSt × mSt} (hstk : l.stackTraces = false) (h : f_X5_needs N σ τ a1 a2 = some q) : mCX l yX5_needs wsX5_needs { frames := 6, cells := mOc q.1, slots := mOs q.1, locals := 82 } D y 161 ad mZ (mB y ad σ τ) [.ref (ad 160), .int a1, .int a2] (mOi q.1) (mB y ad q.2.1 q.2.2) (mOc q.1) (mOs q.1) := by
  refine m_startX (cc := cX5_needs) (maxL := 8) (ret := (some .int)) (by decide) rfl (Nat.le_of_ble_eq_true rfl) (fun p e s m args below meth c ls hB hno V Z hl => ?_)
  obtain ⟨hx, hb, hml, hown, hts, hr, hlk⟩ := id hB
  have hl : lv_has ls 8 [(0, .ref (ad 160)), (1, .int a1), (2, .int a2)] := hl
  rw [f_X5_needs] at h
  refine lv_iload_n hx hb dX5_needs_0 rfl (lv_at hl 1 rfl) ?_
  refine lv_iconst (v := 0) hx hb dX5_needs_1 (by decide) ?_
  refine lv_aload_n hx hb dX5_needs_2 rfl (lv_at hl 0 rfl) ?_
  refine rB_now hx hb hts hown (fun _ h => List.mem_cons_of_mem _ (List.mem_append_left _ (List.mem_append_left _ (List.mem_append_left _ (List.mem_append_left _ (List.mem_append_left _ (List.mem_append_right _ h))))))) V (hts _ (List.mem_of_getElem? (i := 5) rfl)) dX5_needs_3 ?_
  refine gB_T hx hb hts hown (fun _ h => List.mem_cons_of_mem _ (List.mem_append_left _ (List.mem_append_left _ (List.mem_append_left _ (List.mem_append_left _ (List.mem_append_right _ h)))))) V 0 21 (by decide) rfl (hts _ (List.mem_of_getElem? (i := 6) rfl)) dX5_needs_6 ?_
  refine lv_iconst (v := 1) hx hb dX5_needs_9 (by decide) ?_
  refine lv_isub hx hb dX5_needs_10 ?_
  obtain ⟨q21, hq21, h⟩ := bd_s h
  refine kBBs (As := [.int a1, .int 0, .int ((σ 21 0) - 1)]) (rest := []) ⟨hx, hb, hml, hown, hts⟩ Z V (c_X5_isOutside (l := l) (D := D) (y := y) (ad := ad) hstk hq21) (va_cwS 3 hts gX5_needs_X5_isOutside rfl rfl rfl (by decide +kernel) ⟨Nat.le_of_ble_eq_true rfl, Nat.le_of_ble_eq_true rfl⟩) rfl hl.1 rfl (Nat.le_of_ble_eq_true rfl) ⟨Nat.zero_le _, Nat.zero_le _⟩ rfl dX5_needs_11 (fun H locs V => ?_)
  refine lv_if_eq (tgt := 28) hx hb dX5_needs_14 (by decide) (fun hc22 => ?_) (fun hc22 => ?_)
  · replace h := ite_t hc22 h
    refine lv_iload_n hx hb dX5_needs_28 rfl (lv_at hl 2 rfl) ?_
    refine lv_iconst (v := 1) hx hb dX5_needs_29 (by decide) ?_
    refine lv_sipush (v := 600) hx hb dX5_needs_30 (by decide) ?_
    obtain ⟨q23, hq23, h⟩ := bd_s h
    refine kBBs (As := [.int a2, .int 1, .int 600]) (rest := []) ⟨hx, hb, hml, hown, hts⟩ Z V (c_X5_isOutside (l := l) (D := D) (y := y) (ad := ad) hstk hq23) (va_cwS 3 hts gX5_needs_X5_isOutside rfl rfl rfl (by decide +kernel) ⟨Nat.le_of_ble_eq_true rfl, Nat.le_of_ble_eq_true rfl⟩) rfl hl.1 rfl (Nat.le_of_ble_eq_true rfl) ⟨Nat.zero_le _, Nat.zero_le _⟩ rfl dX5_needs_33 (fun H locs V => ?_)
    refine lv_if_eq (tgt := 50) hx hb dX5_needs_36 (by decide) (fun hc24 => ?_) (fun hc24 => ?_)
    · replace h := ite_t hc24 h
      refine lv_iconst (v := 0) hx hb dX5_needs_50 (by decide) ?_
      refine lv_istore_n (lv' := [(3, .int 0), (0, .ref (ad 160)), (1, .int a1), (2, .int a2)]) hx hb dX5_needs_51 rfl hl (by decide) rfl (fun ls hl => ?_)
      refine lv_aload_n hx hb dX5_needs_52 rfl (lv_at hl 1 rfl) ?_
      refine rB_now hx hb hts hown (fun _ h => List.mem_cons_of_mem _ (List.mem_append_left _ (List.mem_append_left _ (List.mem_append_left _ (List.mem_append_left _ (List.mem_append_left _ (List.mem_append_right _ h))))))) V (hts _ (List.mem_of_getElem? (i := 5) rfl)) dX5_needs_53 ?_
      refine rB_G hx hb hts hown (fun _ h => List.mem_cons_of_mem _ (List.mem_append_left _ (List.mem_append_left _ (List.mem_append_left _ (List.mem_append_left _ (List.mem_append_right _ h)))))) V (hts _ (List.mem_of_getElem? (i := 7) rfl)) dX5_needs_56 ?_
      refine lv_astore (lv' := [(4, .ref (ad 3)), (3, .int 0), (0, .ref (ad 160)), (1, .int a1), (2, .int a2)]) hx hb dX5_needs_59 hl (by decide) rfl (fun ls hl => ?_)
      refine lv_aload hx hb dX5_needs_61 (lv_at hl 0 rfl) ?_
      refine nB_G hx hb V dX5_needs_63 ?_
      refine lv_istore (lv' := [(5, .int 16), (4, .ref (ad 3)), (3, .int 0), (0, .ref (ad 160)), (1, .int a1), (2, .int a2)]) hx hb dX5_needs_64 hl (by decide) rfl (fun ls hl => ?_)
      refine lv_iconst (v := 0) hx hb dX5_needs_66 (by decide) ?_
      refine lv_istore (lv' := [(6, .int 0), (5, .int 16), (4, .ref (ad 3)), (3, .int 0), (0, .ref (ad 160)), (1, .int a1), (2, .int a2)]) hx hb dX5_needs_67 hl (by decide) rfl (fun ls hl => ?_)
      exact w_X5_needs_69 hstk Z hB hno _ _ _ _ _ h _ _ _ V (lv_sub hl [5, 6, 3, 2, 1, 0] rfl)
    · replace h := ite_f hc24 h
      obtain rfl := Option.some.inj h
      exact m_throwW (text := "seconds is not 1 to 600") hstk hx hb hown hlk hno Z V (by decide +kernel) (hts _ (List.mem_of_getElem? (i := 3) rfl)) (hts _ (List.mem_of_getElem? (i := 4) rfl)) (List.mem_of_getElem? (i := 35) rfl) (fun w h => hts w ((fun _ h => List.mem_cons_of_mem _ (List.mem_append_right _ h)) w h)) (mB_RX5_28) (mG_RX5_24_28) (hl.1.trans hml.symm) dX5_needs_39 dX5_needs_42 dX5_needs_43 dX5_needs_46 dX5_needs_49 (Nat.le_of_ble_eq_true rfl) (Nat.le_of_ble_eq_true rfl) (Nat.le_refl _) (Nat.le_refl _) (Nat.le_refl _) (Nat.le_refl _) rfl
  · replace h := ite_f hc22 h
    obtain rfl := Option.some.inj h
    exact m_throwW (text := "no such player") hstk hx hb hown hlk hno Z V (by decide +kernel) (hts _ (List.mem_of_getElem? (i := 1) rfl)) (hts _ (List.mem_of_getElem? (i := 2) rfl)) (List.mem_of_getElem? (i := 34) rfl) (fun w h => hts w ((fun _ h => List.mem_cons_of_mem _ (List.mem_append_left _ (List.mem_append_right _ h))) w h)) (mB_RX5_82) (mG_RX5_78_82) (hl.1.trans hml.symm) dX5_needs_17 dX5_needs_20 dX5_needs_21 dX5_needs_24 dX5_needs_27 (Nat.le_of_ble_eq_true rfl) (Nat.le_of_ble_eq_true rfl) (Nat.le_refl _) (Nat.le_refl _) (Nat.le_refl _) (Nat.le_refl _) rfl
-- X5_mean
def f_X5_mean_19 (N : Nat)   : Nat → mSt → mSt → Int32 → Int32 → Int32 → Option (UInt64 × mSt × mSt)
  | 0, _, _, _, _, _ => none
  | n + 1, σ, τ, v1, v2, v5 => if 16 ≤ v5 then if v1 = 0 then some (FP.dconst0, σ, τ) else if (FP.ddiv (FP.i2d v2) (FP.i2d v1)) &&& 0x7fffffffffffffff ≤ 0x7ff0000000000000 then some (FP.ddiv (FP.i2d v2) (FP.i2d v1), σ, τ) else none else if mIn v5 16 then (f_X0_runs N σ v5.toNatClampNeg).bind fun q11 => if q11.1 = 0 then f_X5_mean_19 N n q11.2 τ v1 v2 (v5 + 1) else f_X5_mean_19 N n q11.2 τ (v1 + 2) (v2 + ((q11.2 19 (2 * v5.toNatClampNeg)) + (q11.2 19 (2 * v5.toNatClampNeg + 1)))) (v5 + 1) else none
set_option maxHeartbeats 4000000 in
set_option maxRecDepth 100000 in
theorem w_X5_mean_19 {l : Launch} {D : va_G} {y : Nat → ClassId} {ad : Nat → Nat} {N : Nat} {p : Program} {e : Env} {s : State} {m : MethodId} {args : Array Value} {below : List Frame} {meth : Method} {c : Code} (hstk : l.stackTraces = false) (Z : mZ (mFree 161 ad s.heap.size) s) (hB : mBd p s m args meth c cX5_mean 7 wsX5_mean RX5 (some .double))  {q : UInt64 × mSt × mSt}   : ∀ (n : Nat) (σ τ : mSt) (v1 : Int32) (v2 : Int32) (v5 : Int32), f_X5_mean_19 N   n σ τ v1 v2 v5 = some q → ∀ (H : Heap) (locs : List Loc) (ls : Array Slot), mV D y (mFree 161 ad s.heap.size) s s.heap H locs 161 ad (mB y ad σ τ) → lv_has ls 7 [(1, .int v1), (2, .int v2), (3, .ref (ad 3)), (4, .int 16), (5, .int v5)] → W p l e { frames := 1, cells := 0, slots := 0, locals := 20 } s m args below meth c H locs 0 0 (MQ below (mQ (some (.double q.1)) D 161 ad (mB y ad q.2.1 q.2.2) s.heap.size) args s 0 0 (mFree 161 ad s.heap.size)) (F0 m 19 ls []) := by
  obtain ⟨hx, hb, hml, hown, hts, hr, hlk⟩ := id hB
  intro n
  induction n with
  | zero =>
    intro σ τ v1 v2 v5 h
    exact nomatch h
  | succ n ih =>
    intro σ τ v1 v2 v5 h H locs ls V hl
    rw [f_X5_mean_19] at h
    refine lv_iload hx hb dX5_mean_19 (lv_at hl 4 rfl) ?_
    refine lv_iload hx hb dX5_mean_21 (lv_at hl 3 rfl) ?_
    refine lv_icmp_ge (tgt := 69) hx hb dX5_mean_23 (by decide) (fun hc7 => ?_) (fun hc7 => ?_)
    · replace h := ite_t hc7 h
      refine lv_iload_n hx hb dX5_mean_69 rfl (lv_at hl 0 rfl) ?_
      refine lv_if_ne (tgt := 77) hx hb dX5_mean_70 (by decide) (fun hc8 => ?_) (fun hc8 => ?_)
      · replace h := ite_f hc8 h
        refine lv_iload_n hx hb dX5_mean_77 rfl (lv_at hl 1 rfl) ?_
        refine lv_i2d hx hb dX5_mean_78 ?_
        refine lv_iload_n hx hb dX5_mean_79 rfl (lv_at hl 0 rfl) ?_
        refine lv_i2d hx hb dX5_mean_80 ?_
        obtain ⟨hv9, h⟩ := gd_s h
        refine lv_ddiv hx hb dX5_mean_81 hv9 ?_
        obtain rfl := Option.some.inj h
        exact m_dret hx hb hr hlk V (Nat.zero_le _) (Nat.zero_le _) dX5_mean_82
      · replace h := ite_t hc8 h
        refine lv_dconst0 hx hb dX5_mean_73 ?_
        refine lv_goto (tgt := 82) hx hb dX5_mean_74 (by decide) ?_
        obtain rfl := Option.some.inj h
        exact m_dret hx hb hr hlk V (Nat.zero_le _) (Nat.zero_le _) dX5_mean_82
    · replace h := ite_f hc7 h
      refine lv_aload_n hx hb dX5_mean_26 rfl (lv_at hl 2 rfl) ?_
      refine lv_iload hx hb dX5_mean_27 (lv_at hl 4 rfl) ?_
      obtain ⟨hi10, h⟩ := gd_s h
      refine aB_G hx hb V hi10 dX5_mean_29 ?_
      refine lv_astore (lv' := [(6, .ref (ad (32 + v5.toNatClampNeg))), (1, .int v1), (2, .int v2), (3, .ref (ad 3)), (4, .int 16), (5, .int v5)]) hx hb dX5_mean_30 hl (by decide) rfl (fun ls hl => ?_)
      refine lv_aload hx hb dX5_mean_32 (lv_at hl 0 rfl) ?_
      obtain ⟨q11, hq11, h⟩ := bd_s h
      refine kBS (As := []) (rest := []) ⟨hx, hb, hml, hown, hts⟩ Z V (c_X0_runs (l := l) (D := D) (y := y) (ad := ad) hstk hq11) (cwV 0 hts gX5_mean_X0_runs rfl rfl rfl (by decide +kernel) ⟨Nat.le_of_ble_eq_true rfl, Nat.le_of_ble_eq_true rfl⟩) (by omega) ((mB_0 y ad _ _ (by omega)).trans (mS_G y ad _ hi10.2)) rfl rfl hl.1 rfl (Nat.le_of_ble_eq_true rfl) ⟨Nat.zero_le _, Nat.zero_le _⟩ rfl dX5_mean_34 (fun H locs V => ?_)
      refine lv_if_eq (tgt := 63) hx hb dX5_mean_37 (by decide) (fun hc12 => ?_) (fun hc12 => ?_)
      · replace h := ite_t hc12 h
        refine lv_iinc (v := v5 + 1) (lv' := [(5, .int (v5 + 1)), (6, .ref (ad (32 + v5.toNatClampNeg))), (1, .int v1), (2, .int v2), (3, .ref (ad 3)), (4, .int 16)]) hx hb dX5_mean_63 hl (k := 5) rfl rfl (by decide) rfl (fun ls hl => ?_)
        refine lv_goto (tgt := 19) hx hb dX5_mean_66 (by decide) ?_
        exact ih _ _ _ _ _ h _ _ _ V (lv_sub hl [2, 3, 4, 5, 0] rfl)
      · replace h := ite_f hc12 h
        refine lv_iinc (v := v1 + 2) (lv' := [(1, .int (v1 + 2)), (6, .ref (ad (32 + v5.toNatClampNeg))), (2, .int v2), (3, .ref (ad 3)), (4, .int 16), (5, .int v5)]) hx hb dX5_mean_40 hl (k := 1) rfl rfl (by decide) rfl (fun ls hl => ?_)
        refine lv_iload_n hx hb dX5_mean_43 rfl (lv_at hl 2 rfl) ?_
        refine lv_aload hx hb dX5_mean_44 (lv_at hl 1 rfl) ?_
        refine sB_w hx hb hts hown (fun _ h => List.mem_cons_of_mem _ (List.mem_append_left _ (List.mem_append_right _ h))) V hi10.2 (hts _ (List.mem_of_getElem? (i := 3) rfl)) dX5_mean_46 ?_
        refine gB_S hx hb hts hown (fun _ h => List.mem_cons_of_mem _ (List.mem_append_right _ h)) V (show 2 * v5.toNatClampNeg < 32 by have := hi10.2; omega) 1 19 (by decide) rfl (hts _ (List.mem_of_getElem? (i := 4) rfl)) dX5_mean_49 ?_
        refine lv_aload hx hb dX5_mean_52 (lv_at hl 1 rfl) ?_
        refine sB_b hx hb hts hown (fun _ h => List.mem_cons_of_mem _ (List.mem_append_left _ (List.mem_append_right _ h))) V hi10.2 (hts _ (List.mem_of_getElem? (i := 5) rfl)) dX5_mean_54 ?_
        refine gB_S hx hb hts hown (fun _ h => List.mem_cons_of_mem _ (List.mem_append_right _ h)) V (show 2 * v5.toNatClampNeg + 1 < 32 by have := hi10.2; omega) 1 19 (by decide) rfl (hts _ (List.mem_of_getElem? (i := 4) rfl)) dX5_mean_57 ?_
        refine lv_iadd hx hb dX5_mean_60 ?_
        refine lv_iadd hx hb dX5_mean_61 ?_
        refine lv_istore_n (lv' := [(2, .int (v2 + ((q11.2 19 (2 * v5.toNatClampNeg)) + (q11.2 19 (2 * v5.toNatClampNeg + 1))))), (1, .int (v1 + 2)), (6, .ref (ad (32 + v5.toNatClampNeg))), (3, .ref (ad 3)), (4, .int 16), (5, .int v5)]) hx hb dX5_mean_62 rfl hl (by decide) rfl (fun ls hl => ?_)
        refine lv_iinc (v := v5 + 1) (lv' := [(5, .int (v5 + 1)), (2, .int (v2 + ((q11.2 19 (2 * v5.toNatClampNeg)) + (q11.2 19 (2 * v5.toNatClampNeg + 1))))), (1, .int (v1 + 2)), (6, .ref (ad (32 + v5.toNatClampNeg))), (3, .ref (ad 3)), (4, .int 16)]) hx hb dX5_mean_63 hl (k := 5) rfl rfl (by decide) rfl (fun ls hl => ?_)
        refine lv_goto (tgt := 19) hx hb dX5_mean_66 (by decide) ?_
        exact ih _ _ _ _ _ h _ _ _ V (lv_sub hl [2, 1, 4, 5, 0] rfl)
def f_X5_mean (N : Nat) (σ τ : mSt)  : Option (UInt64 × mSt × mSt) := f_X5_mean_19 N N σ τ 0 0 0
set_option maxHeartbeats 4000000 in
set_option maxRecDepth 100000 in
theorem c_X5_mean {l : Launch} {D : va_G} {y : Nat → ClassId} {ad : Nat → Nat} {N : Nat} {σ τ : mSt}  {q : UInt64 × mSt × mSt} (hstk : l.stackTraces = false) (h : f_X5_mean N σ τ = some q) : mC l yX5_mean wsX5_mean { frames := 1, cells := 0, slots := 0, locals := 20 } D y 161 ad mZ (mB y ad σ τ) [.ref (ad 160)] (some (.double q.1)) (mB y ad q.2.1 q.2.2) 0 0 := by
  refine m_start (cc := cX5_mean) (maxL := 7) (ret := (some .double)) (by decide) rfl (Nat.le_of_ble_eq_true rfl) (fun p e s m args below meth c ls hB _ V Z hl => ?_)
  obtain ⟨hx, hb, hml, hown, hts, hr, hlk⟩ := id hB
  have hl : lv_has ls 7 [(0, .ref (ad 160))] := hl
  rw [f_X5_mean] at h
  refine lv_iconst (v := 0) hx hb dX5_mean_0 (by decide) ?_
  refine lv_istore_n (lv' := [(1, .int 0), (0, .ref (ad 160))]) hx hb dX5_mean_1 rfl hl (by decide) rfl (fun ls hl => ?_)
  refine lv_iconst (v := 0) hx hb dX5_mean_2 (by decide) ?_
  refine lv_istore_n (lv' := [(2, .int 0), (1, .int 0), (0, .ref (ad 160))]) hx hb dX5_mean_3 rfl hl (by decide) rfl (fun ls hl => ?_)
  refine lv_aload_n hx hb dX5_mean_4 rfl (lv_at hl 2 rfl) ?_
  refine rB_now hx hb hts hown (fun _ h => List.mem_cons_of_mem _ (List.mem_append_left _ (List.mem_append_left _ (List.mem_append_left _ (List.mem_append_right _ h))))) V (hts _ (List.mem_of_getElem? (i := 1) rfl)) dX5_mean_5 ?_
  refine rB_G hx hb hts hown (fun _ h => List.mem_cons_of_mem _ (List.mem_append_left _ (List.mem_append_left _ (List.mem_append_right _ h)))) V (hts _ (List.mem_of_getElem? (i := 2) rfl)) dX5_mean_8 ?_
  refine lv_astore_n (lv' := [(3, .ref (ad 3)), (2, .int 0), (1, .int 0), (0, .ref (ad 160))]) hx hb dX5_mean_11 rfl hl (by decide) rfl (fun ls hl => ?_)
  refine lv_aload_n hx hb dX5_mean_12 rfl (lv_at hl 0 rfl) ?_
  refine nB_G hx hb V dX5_mean_13 ?_
  refine lv_istore (lv' := [(4, .int 16), (3, .ref (ad 3)), (2, .int 0), (1, .int 0), (0, .ref (ad 160))]) hx hb dX5_mean_14 hl (by decide) rfl (fun ls hl => ?_)
  refine lv_iconst (v := 0) hx hb dX5_mean_16 (by decide) ?_
  refine lv_istore (lv' := [(5, .int 0), (4, .int 16), (3, .ref (ad 3)), (2, .int 0), (1, .int 0), (0, .ref (ad 160))]) hx hb dX5_mean_17 hl (by decide) rfl (fun ls hl => ?_)
  exact w_X5_mean_19 hstk Z hB _ _ _ _ _ _ h _ _ _ V (lv_sub hl [4, 3, 2, 1, 0] rfl)
-- X5_digestPlayers
def f_X5_digestPlayers_20 (N : Nat) (a1 : Int64) (rec5 : mSt → mSt → Int64 → Int32 → Option (Int64 × mSt × mSt)) : Nat → mSt → mSt → Int64 → Int32 → Int32 → Option (Int64 × mSt × mSt)
  | 0, _, _, _, _, _ => none
  | n + 1, σ, τ, v3, v5, v6 => if 8 ≤ v6 then rec5 σ τ v3 (v5 + 1) else (f_X5_player N σ τ v5 v6).bind fun q8 => oCase q8.1 (fun r9 => f_X5_digestPlayers_20 N a1 rec5 n q8.2.1 q8.2.2 ((v3 * 31) + r9.toInt64) v5 (v6 + 1)) (fun _ => none)
set_option maxHeartbeats 4000000 in
set_option maxRecDepth 100000 in
theorem w_X5_digestPlayers_20 {l : Launch} {D : va_G} {y : Nat → ClassId} {ad : Nat → Nat} {N : Nat} {p : Program} {e : Env} {s : State} {m : MethodId} {args : Array Value} {below : List Frame} {meth : Method} {c : Code} (hstk : l.stackTraces = false) (Z : mZ (mFree 161 ad s.heap.size) s) (hB : mBd p s m args meth c cX5_digestPlayers 7 wsX5_digestPlayers RX5 (some .long)) {a1 : Int64} {q : Int64 × mSt × mSt} {rec5 : mSt → mSt → Int64 → Int32 → Option (Int64 × mSt × mSt)} (hrec5 : ∀ (σ τ : mSt) (v3 : Int64) (v5 : Int32), rec5 σ τ v3 v5 = some q → ∀ (H : Heap) (locs : List Loc) (ls : Array Slot), mV D y (mFree 161 ad s.heap.size) s s.heap H locs 161 ad (mB y ad σ τ) → lv_has ls 7 [(0, .ref (ad 160)), (3, .long v3), (5, .int v5)] → W p l e { frames := 8, cells := 0, slots := 0, locals := 126 } s m args below meth c H locs 0 0 (MQ below (mQ (some (.long q.1)) D 161 ad (mB y ad q.2.1 q.2.2) s.heap.size) args s 0 0 (mFree 161 ad s.heap.size)) (F0 m 5 ls [])) : ∀ (n : Nat) (σ τ : mSt) (v3 : Int64) (v5 : Int32) (v6 : Int32), f_X5_digestPlayers_20 N a1 rec5 n σ τ v3 v5 v6 = some q → ∀ (H : Heap) (locs : List Loc) (ls : Array Slot), mV D y (mFree 161 ad s.heap.size) s s.heap H locs 161 ad (mB y ad σ τ) → lv_has ls 7 [(0, .ref (ad 160)), (3, .long v3), (5, .int v5), (6, .int v6)] → W p l e { frames := 8, cells := 0, slots := 0, locals := 126 } s m args below meth c H locs 0 0 (MQ below (mQ (some (.long q.1)) D 161 ad (mB y ad q.2.1 q.2.2) s.heap.size) args s 0 0 (mFree 161 ad s.heap.size)) (F0 m 20 ls []) := by
  obtain ⟨hx, hb, hml, hown, hts, hr, hlk⟩ := id hB
  intro n
  induction n with
  | zero =>
    intro σ τ v3 v5 v6 h
    exact nomatch h
  | succ n ih =>
    intro σ τ v3 v5 v6 h H locs ls V hl
    rw [f_X5_digestPlayers_20] at h
    refine lv_iload hx hb dX5_digestPlayers_20 (lv_at hl 3 rfl) ?_
    refine lv_bipush (v := 8) hx hb dX5_digestPlayers_22 (by decide) ?_
    refine lv_icmp_ge (tgt := 49) hx hb dX5_digestPlayers_24 (by decide) (fun hc7 => ?_) (fun hc7 => ?_)
    · replace h := ite_t hc7 h
      refine lv_iinc (v := v5 + 1) (lv' := [(5, .int (v5 + 1)), (0, .ref (ad 160)), (3, .long v3), (6, .int v6)]) hx hb dX5_digestPlayers_49 hl (k := 2) rfl rfl (by decide) rfl (fun ls hl => ?_)
      refine lv_goto (tgt := 5) hx hb dX5_digestPlayers_52 (by decide) ?_
      exact hrec5 _ _ _ _ h _ _ _ V (lv_sub hl [1, 2, 0] rfl)
    · replace h := ite_f hc7 h
      refine lv_lload_n hx hb dX5_digestPlayers_27 rfl (lv_at hl 1 rfl) ?_
      refine lv_ldc2 (v := 31) hx hb hown (hts _ (List.mem_of_getElem? (i := 3) rfl)) dX5_digestPlayers_28 ?_
      refine lv_lmul hx hb dX5_digestPlayers_31 ?_
      refine lv_aload_n hx hb dX5_digestPlayers_32 rfl (lv_at hl 0 rfl) ?_
      refine lv_iload hx hb dX5_digestPlayers_33 (lv_at hl 2 rfl) ?_
      refine lv_iload hx hb dX5_digestPlayers_35 (lv_at hl 3 rfl) ?_
      obtain ⟨q8, hq8, h⟩ := bd_s h
      cases ho11 : q8.1 with
      | inl r9 =>
        replace h := oCase_l ho11 h
        refine kBB (As := [.int v5, .int v6]) (rest := [.long (v3 * 31)]) ⟨hx, hb, hml, hown, hts⟩ Z V (mOi_plain ho11 (c_X5_player (l := l) (D := D) (y := y) (ad := ad) hstk hq8)) (cwV 2 hts gX5_digestPlayers_X5_player rfl rfl rfl (by decide +kernel) ⟨Nat.le_of_ble_eq_true rfl, Nat.le_of_ble_eq_true rfl⟩) (by omega) (mB_b y ad _ _) rfl rfl hl.1 rfl (Nat.le_of_ble_eq_true rfl) ⟨Nat.zero_le _, Nat.zero_le _⟩ rfl dX5_digestPlayers_37 (fun H locs V => ?_)
        refine lv_i2l hx hb dX5_digestPlayers_40 rfl ?_
        refine lv_ladd hx hb dX5_digestPlayers_41 ?_
        refine lv_lstore_n (lv' := [(3, .long ((v3 * 31) + r9.toInt64)), (0, .ref (ad 160)), (5, .int v5), (6, .int v6)]) hx hb dX5_digestPlayers_42 rfl hl (by decide) rfl (fun ls hl => ?_)
        refine lv_iinc (v := v6 + 1) (lv' := [(6, .int (v6 + 1)), (3, .long ((v3 * 31) + r9.toInt64)), (0, .ref (ad 160)), (5, .int v5)]) hx hb dX5_digestPlayers_43 hl (k := 3) rfl rfl (by decide) rfl (fun ls hl => ?_)
        refine lv_goto (tgt := 20) hx hb dX5_digestPlayers_46 (by decide) ?_
        exact ih _ _ _ _ _ h _ _ _ V (lv_sub hl [2, 1, 3, 0] rfl)
      | inr e10 =>
        exact nomatch (oCase_r ho11 h)
def f_X5_digestPlayers_5 (N : Nat) (a1 : Int64)  : Nat → mSt → mSt → Int64 → Int32 → Option (Int64 × mSt × mSt)
  | 0, _, _, _, _ => none
  | n + 1, σ, τ, v3, v5 => if (σ 21 0) ≤ v5 then some (v3, σ, τ) else f_X5_digestPlayers_20 N a1 (fun σ τ v3 v5 => f_X5_digestPlayers_5 N a1 n σ τ v3 v5) N σ τ v3 v5 0
set_option maxHeartbeats 4000000 in
set_option maxRecDepth 100000 in
theorem w_X5_digestPlayers_5 {l : Launch} {D : va_G} {y : Nat → ClassId} {ad : Nat → Nat} {N : Nat} {p : Program} {e : Env} {s : State} {m : MethodId} {args : Array Value} {below : List Frame} {meth : Method} {c : Code} (hstk : l.stackTraces = false) (Z : mZ (mFree 161 ad s.heap.size) s) (hB : mBd p s m args meth c cX5_digestPlayers 7 wsX5_digestPlayers RX5 (some .long)) {a1 : Int64} {q : Int64 × mSt × mSt}   : ∀ (n : Nat) (σ τ : mSt) (v3 : Int64) (v5 : Int32), f_X5_digestPlayers_5 N a1  n σ τ v3 v5 = some q → ∀ (H : Heap) (locs : List Loc) (ls : Array Slot), mV D y (mFree 161 ad s.heap.size) s s.heap H locs 161 ad (mB y ad σ τ) → lv_has ls 7 [(0, .ref (ad 160)), (3, .long v3), (5, .int v5)] → W p l e { frames := 8, cells := 0, slots := 0, locals := 126 } s m args below meth c H locs 0 0 (MQ below (mQ (some (.long q.1)) D 161 ad (mB y ad q.2.1 q.2.2) s.heap.size) args s 0 0 (mFree 161 ad s.heap.size)) (F0 m 5 ls []) := by
  obtain ⟨hx, hb, hml, hown, hts, hr, hlk⟩ := id hB
  intro n
  induction n with
  | zero =>
    intro σ τ v3 v5 h
    exact nomatch h
  | succ n ih =>
    intro σ τ v3 v5 h H locs ls V hl
    rw [f_X5_digestPlayers_5] at h
    refine lv_iload hx hb dX5_digestPlayers_5 (lv_at hl 2 rfl) ?_
    refine lv_aload_n hx hb dX5_digestPlayers_7 rfl (lv_at hl 0 rfl) ?_
    refine rB_now hx hb hts hown (fun _ h => List.mem_cons_of_mem _ (List.mem_append_left _ (List.mem_append_left _ (List.mem_append_left _ (List.mem_append_left _ (List.mem_append_left _ (List.mem_append_left _ (List.mem_append_left _ (List.mem_append_right _ h))))))))) V (hts _ (List.mem_of_getElem? (i := 1) rfl)) dX5_digestPlayers_8 ?_
    refine gB_T hx hb hts hown (fun _ h => List.mem_cons_of_mem _ (List.mem_append_left _ (List.mem_append_left _ (List.mem_append_left _ (List.mem_append_left _ (List.mem_append_left _ (List.mem_append_left _ (List.mem_append_right _ h)))))))) V 0 21 (by decide) rfl (hts _ (List.mem_of_getElem? (i := 2) rfl)) dX5_digestPlayers_11 ?_
    refine lv_icmp_ge (tgt := 55) hx hb dX5_digestPlayers_14 (by decide) (fun hc12 => ?_) (fun hc12 => ?_)
    · replace h := ite_t hc12 h
      refine lv_lload_n hx hb dX5_digestPlayers_55 rfl (lv_at hl 1 rfl) ?_
      obtain rfl := Option.some.inj h
      exact m_lret hx hb hr hlk V (Nat.zero_le _) (Nat.zero_le _) dX5_digestPlayers_56
    · replace h := ite_f hc12 h
      refine lv_iconst (v := 0) hx hb dX5_digestPlayers_17 (by decide) ?_
      refine lv_istore (lv' := [(6, .int 0), (0, .ref (ad 160)), (3, .long v3), (5, .int v5)]) hx hb dX5_digestPlayers_18 hl (by decide) rfl (fun ls hl => ?_)
      exact w_X5_digestPlayers_20 hstk Z hB ih _ _ _ _ _ _ h _ _ _ V (lv_sub hl [1, 2, 3, 0] rfl)
def f_X5_digestPlayers (N : Nat) (σ τ : mSt) (a1 : Int64) : Option (Int64 × mSt × mSt) := f_X5_digestPlayers_5 N a1 N σ τ a1 0
set_option maxHeartbeats 4000000 in
set_option maxRecDepth 100000 in
theorem c_X5_digestPlayers {l : Launch} {D : va_G} {y : Nat → ClassId} {ad : Nat → Nat} {N : Nat} {σ τ : mSt} {a1 : Int64} {q : Int64 × mSt × mSt} (hstk : l.stackTraces = false) (h : f_X5_digestPlayers N σ τ a1 = some q) : mC l yX5_digestPlayers wsX5_digestPlayers { frames := 8, cells := 0, slots := 0, locals := 126 } D y 161 ad mZ (mB y ad σ τ) [.ref (ad 160), .long a1] (some (.long q.1)) (mB y ad q.2.1 q.2.2) 0 0 := by
  refine m_start (cc := cX5_digestPlayers) (maxL := 7) (ret := (some .long)) (by decide) rfl (Nat.le_of_ble_eq_true rfl) (fun p e s m args below meth c ls hB _ V Z hl => ?_)
  obtain ⟨hx, hb, hml, hown, hts, hr, hlk⟩ := id hB
  have hl : lv_has ls 7 [(0, .ref (ad 160)), (1, .long a1)] := hl
  rw [f_X5_digestPlayers] at h
  refine lv_lload_n hx hb dX5_digestPlayers_0 rfl (lv_at hl 1 rfl) ?_
  refine lv_lstore_n (lv' := [(3, .long a1), (0, .ref (ad 160)), (1, .long a1)]) hx hb dX5_digestPlayers_1 rfl hl (by decide) rfl (fun ls hl => ?_)
  refine lv_iconst (v := 0) hx hb dX5_digestPlayers_2 (by decide) ?_
  refine lv_istore (lv' := [(5, .int 0), (3, .long a1), (0, .ref (ad 160)), (1, .long a1)]) hx hb dX5_digestPlayers_3 hl (by decide) rfl (fun ls hl => ?_)
  exact w_X5_digestPlayers_5 hstk Z hB _ _ _ _ _ h _ _ _ V (lv_sub hl [2, 1, 0] rfl)
-- X5_digestLoans
def f_X5_digestLoans_20 (N : Nat) (a1 : Int64) (rec5 : mSt → mSt → Int64 → Int32 → Option (Int64 × mSt × mSt)) : Nat → mSt → mSt → Int64 → Int32 → Int32 → Option (Int64 × mSt × mSt)
  | 0, _, _, _, _, _ => none
  | n + 1, σ, τ, v3, v5, v6 => if 5 ≤ v6 then rec5 σ τ v3 (v5 + 1) else (f_X5_loan N σ τ v5 v6).bind fun q8 => oCase q8.1 (fun r9 => f_X5_digestLoans_20 N a1 rec5 n q8.2.1 q8.2.2 ((v3 * 31) + r9.toInt64) v5 (v6 + 1)) (fun _ => none)
set_option maxHeartbeats 4000000 in
set_option maxRecDepth 100000 in
theorem w_X5_digestLoans_20 {l : Launch} {D : va_G} {y : Nat → ClassId} {ad : Nat → Nat} {N : Nat} {p : Program} {e : Env} {s : State} {m : MethodId} {args : Array Value} {below : List Frame} {meth : Method} {c : Code} (hstk : l.stackTraces = false) (Z : mZ (mFree 161 ad s.heap.size) s) (hB : mBd p s m args meth c cX5_digestLoans 7 wsX5_digestLoans RX5 (some .long)) {a1 : Int64} {q : Int64 × mSt × mSt} {rec5 : mSt → mSt → Int64 → Int32 → Option (Int64 × mSt × mSt)} (hrec5 : ∀ (σ τ : mSt) (v3 : Int64) (v5 : Int32), rec5 σ τ v3 v5 = some q → ∀ (H : Heap) (locs : List Loc) (ls : Array Slot), mV D y (mFree 161 ad s.heap.size) s s.heap H locs 161 ad (mB y ad σ τ) → lv_has ls 7 [(0, .ref (ad 160)), (3, .long v3), (5, .int v5)] → W p l e { frames := 8, cells := 0, slots := 0, locals := 126 } s m args below meth c H locs 0 0 (MQ below (mQ (some (.long q.1)) D 161 ad (mB y ad q.2.1 q.2.2) s.heap.size) args s 0 0 (mFree 161 ad s.heap.size)) (F0 m 5 ls [])) : ∀ (n : Nat) (σ τ : mSt) (v3 : Int64) (v5 : Int32) (v6 : Int32), f_X5_digestLoans_20 N a1 rec5 n σ τ v3 v5 v6 = some q → ∀ (H : Heap) (locs : List Loc) (ls : Array Slot), mV D y (mFree 161 ad s.heap.size) s s.heap H locs 161 ad (mB y ad σ τ) → lv_has ls 7 [(0, .ref (ad 160)), (3, .long v3), (5, .int v5), (6, .int v6)] → W p l e { frames := 8, cells := 0, slots := 0, locals := 126 } s m args below meth c H locs 0 0 (MQ below (mQ (some (.long q.1)) D 161 ad (mB y ad q.2.1 q.2.2) s.heap.size) args s 0 0 (mFree 161 ad s.heap.size)) (F0 m 20 ls []) := by
  obtain ⟨hx, hb, hml, hown, hts, hr, hlk⟩ := id hB
  intro n
  induction n with
  | zero =>
    intro σ τ v3 v5 v6 h
    exact nomatch h
  | succ n ih =>
    intro σ τ v3 v5 v6 h H locs ls V hl
    rw [f_X5_digestLoans_20] at h
    refine lv_iload hx hb dX5_digestLoans_20 (lv_at hl 3 rfl) ?_
    refine lv_iconst (v := 5) hx hb dX5_digestLoans_22 (by decide) ?_
    refine lv_icmp_ge (tgt := 48) hx hb dX5_digestLoans_23 (by decide) (fun hc7 => ?_) (fun hc7 => ?_)
    · replace h := ite_t hc7 h
      refine lv_iinc (v := v5 + 1) (lv' := [(5, .int (v5 + 1)), (0, .ref (ad 160)), (3, .long v3), (6, .int v6)]) hx hb dX5_digestLoans_48 hl (k := 2) rfl rfl (by decide) rfl (fun ls hl => ?_)
      refine lv_goto (tgt := 5) hx hb dX5_digestLoans_51 (by decide) ?_
      exact hrec5 _ _ _ _ h _ _ _ V (lv_sub hl [1, 2, 0] rfl)
    · replace h := ite_f hc7 h
      refine lv_lload_n hx hb dX5_digestLoans_26 rfl (lv_at hl 1 rfl) ?_
      refine lv_ldc2 (v := 31) hx hb hown (hts _ (List.mem_of_getElem? (i := 3) rfl)) dX5_digestLoans_27 ?_
      refine lv_lmul hx hb dX5_digestLoans_30 ?_
      refine lv_aload_n hx hb dX5_digestLoans_31 rfl (lv_at hl 0 rfl) ?_
      refine lv_iload hx hb dX5_digestLoans_32 (lv_at hl 2 rfl) ?_
      refine lv_iload hx hb dX5_digestLoans_34 (lv_at hl 3 rfl) ?_
      obtain ⟨q8, hq8, h⟩ := bd_s h
      cases ho11 : q8.1 with
      | inl r9 =>
        replace h := oCase_l ho11 h
        refine kBB (As := [.int v5, .int v6]) (rest := [.long (v3 * 31)]) ⟨hx, hb, hml, hown, hts⟩ Z V (mOi_plain ho11 (c_X5_loan (l := l) (D := D) (y := y) (ad := ad) hstk hq8)) (cwV 2 hts gX5_digestLoans_X5_loan rfl rfl rfl (by decide +kernel) ⟨Nat.le_of_ble_eq_true rfl, Nat.le_of_ble_eq_true rfl⟩) (by omega) (mB_b y ad _ _) rfl rfl hl.1 rfl (Nat.le_of_ble_eq_true rfl) ⟨Nat.zero_le _, Nat.zero_le _⟩ rfl dX5_digestLoans_36 (fun H locs V => ?_)
        refine lv_i2l hx hb dX5_digestLoans_39 rfl ?_
        refine lv_ladd hx hb dX5_digestLoans_40 ?_
        refine lv_lstore_n (lv' := [(3, .long ((v3 * 31) + r9.toInt64)), (0, .ref (ad 160)), (5, .int v5), (6, .int v6)]) hx hb dX5_digestLoans_41 rfl hl (by decide) rfl (fun ls hl => ?_)
        refine lv_iinc (v := v6 + 1) (lv' := [(6, .int (v6 + 1)), (3, .long ((v3 * 31) + r9.toInt64)), (0, .ref (ad 160)), (5, .int v5)]) hx hb dX5_digestLoans_42 hl (k := 3) rfl rfl (by decide) rfl (fun ls hl => ?_)
        refine lv_goto (tgt := 20) hx hb dX5_digestLoans_45 (by decide) ?_
        exact ih _ _ _ _ _ h _ _ _ V (lv_sub hl [2, 1, 3, 0] rfl)
      | inr e10 =>
        exact nomatch (oCase_r ho11 h)
def f_X5_digestLoans_5 (N : Nat) (a1 : Int64)  : Nat → mSt → mSt → Int64 → Int32 → Option (Int64 × mSt × mSt)
  | 0, _, _, _, _ => none
  | n + 1, σ, τ, v3, v5 => if (σ 22 0) ≤ v5 then some (v3, σ, τ) else f_X5_digestLoans_20 N a1 (fun σ τ v3 v5 => f_X5_digestLoans_5 N a1 n σ τ v3 v5) N σ τ v3 v5 0
set_option maxHeartbeats 4000000 in
set_option maxRecDepth 100000 in
theorem w_X5_digestLoans_5 {l : Launch} {D : va_G} {y : Nat → ClassId} {ad : Nat → Nat} {N : Nat} {p : Program} {e : Env} {s : State} {m : MethodId} {args : Array Value} {below : List Frame} {meth : Method} {c : Code} (hstk : l.stackTraces = false) (Z : mZ (mFree 161 ad s.heap.size) s) (hB : mBd p s m args meth c cX5_digestLoans 7 wsX5_digestLoans RX5 (some .long)) {a1 : Int64} {q : Int64 × mSt × mSt}   : ∀ (n : Nat) (σ τ : mSt) (v3 : Int64) (v5 : Int32), f_X5_digestLoans_5 N a1  n σ τ v3 v5 = some q → ∀ (H : Heap) (locs : List Loc) (ls : Array Slot), mV D y (mFree 161 ad s.heap.size) s s.heap H locs 161 ad (mB y ad σ τ) → lv_has ls 7 [(0, .ref (ad 160)), (3, .long v3), (5, .int v5)] → W p l e { frames := 8, cells := 0, slots := 0, locals := 126 } s m args below meth c H locs 0 0 (MQ below (mQ (some (.long q.1)) D 161 ad (mB y ad q.2.1 q.2.2) s.heap.size) args s 0 0 (mFree 161 ad s.heap.size)) (F0 m 5 ls []) := by
  obtain ⟨hx, hb, hml, hown, hts, hr, hlk⟩ := id hB
  intro n
  induction n with
  | zero =>
    intro σ τ v3 v5 h
    exact nomatch h
  | succ n ih =>
    intro σ τ v3 v5 h H locs ls V hl
    rw [f_X5_digestLoans_5] at h
    refine lv_iload hx hb dX5_digestLoans_5 (lv_at hl 2 rfl) ?_
    refine lv_aload_n hx hb dX5_digestLoans_7 rfl (lv_at hl 0 rfl) ?_
    refine rB_now hx hb hts hown (fun _ h => List.mem_cons_of_mem _ (List.mem_append_left _ (List.mem_append_left _ (List.mem_append_left _ (List.mem_append_left _ (List.mem_append_right _ h)))))) V (hts _ (List.mem_of_getElem? (i := 1) rfl)) dX5_digestLoans_8 ?_
    refine gB_T hx hb hts hown (fun _ h => List.mem_cons_of_mem _ (List.mem_append_left _ (List.mem_append_left _ (List.mem_append_left _ (List.mem_append_right _ h))))) V 1 22 (by decide) rfl (hts _ (List.mem_of_getElem? (i := 2) rfl)) dX5_digestLoans_11 ?_
    refine lv_icmp_ge (tgt := 54) hx hb dX5_digestLoans_14 (by decide) (fun hc12 => ?_) (fun hc12 => ?_)
    · replace h := ite_t hc12 h
      refine lv_lload_n hx hb dX5_digestLoans_54 rfl (lv_at hl 1 rfl) ?_
      obtain rfl := Option.some.inj h
      exact m_lret hx hb hr hlk V (Nat.zero_le _) (Nat.zero_le _) dX5_digestLoans_55
    · replace h := ite_f hc12 h
      refine lv_iconst (v := 0) hx hb dX5_digestLoans_17 (by decide) ?_
      refine lv_istore (lv' := [(6, .int 0), (0, .ref (ad 160)), (3, .long v3), (5, .int v5)]) hx hb dX5_digestLoans_18 hl (by decide) rfl (fun ls hl => ?_)
      exact w_X5_digestLoans_20 hstk Z hB ih _ _ _ _ _ _ h _ _ _ V (lv_sub hl [1, 2, 3, 0] rfl)
def f_X5_digestLoans (N : Nat) (σ τ : mSt) (a1 : Int64) : Option (Int64 × mSt × mSt) := f_X5_digestLoans_5 N a1 N σ τ a1 0
set_option maxHeartbeats 4000000 in
set_option maxRecDepth 100000 in
theorem c_X5_digestLoans {l : Launch} {D : va_G} {y : Nat → ClassId} {ad : Nat → Nat} {N : Nat} {σ τ : mSt} {a1 : Int64} {q : Int64 × mSt × mSt} (hstk : l.stackTraces = false) (h : f_X5_digestLoans N σ τ a1 = some q) : mC l yX5_digestLoans wsX5_digestLoans { frames := 8, cells := 0, slots := 0, locals := 126 } D y 161 ad mZ (mB y ad σ τ) [.ref (ad 160), .long a1] (some (.long q.1)) (mB y ad q.2.1 q.2.2) 0 0 := by
  refine m_start (cc := cX5_digestLoans) (maxL := 7) (ret := (some .long)) (by decide) rfl (Nat.le_of_ble_eq_true rfl) (fun p e s m args below meth c ls hB _ V Z hl => ?_)
  obtain ⟨hx, hb, hml, hown, hts, hr, hlk⟩ := id hB
  have hl : lv_has ls 7 [(0, .ref (ad 160)), (1, .long a1)] := hl
  rw [f_X5_digestLoans] at h
  refine lv_lload_n hx hb dX5_digestLoans_0 rfl (lv_at hl 1 rfl) ?_
  refine lv_lstore_n (lv' := [(3, .long a1), (0, .ref (ad 160)), (1, .long a1)]) hx hb dX5_digestLoans_1 rfl hl (by decide) rfl (fun ls hl => ?_)
  refine lv_iconst (v := 0) hx hb dX5_digestLoans_2 (by decide) ?_
  refine lv_istore (lv' := [(5, .int 0), (3, .long a1), (0, .ref (ad 160)), (1, .long a1)]) hx hb dX5_digestLoans_3 hl (by decide) rfl (fun ls hl => ?_)
  exact w_X5_digestLoans_5 hstk Z hB _ _ _ _ _ h _ _ _ V (lv_sub hl [2, 1, 0] rfl)
-- X5_digestGames
def f_X5_digestGames_20 (N : Nat) (a1 : Int64) (rec5 : mSt → mSt → Int64 → Int32 → Option (Int64 × mSt × mSt)) : Nat → mSt → mSt → Int64 → Int32 → Int32 → Option (Int64 × mSt × mSt)
  | 0, _, _, _, _, _ => none
  | n + 1, σ, τ, v3, v5, v6 => if 11 ≤ v6 then rec5 σ τ v3 (v5 + 1) else (f_X5_game N σ τ v5 v6).bind fun q8 => oCase q8.1 (fun r9 => f_X5_digestGames_20 N a1 rec5 n q8.2.1 q8.2.2 ((v3 * 31) + r9.toInt64) v5 (v6 + 1)) (fun _ => none)
set_option maxHeartbeats 4000000 in
set_option maxRecDepth 100000 in
theorem w_X5_digestGames_20 {l : Launch} {D : va_G} {y : Nat → ClassId} {ad : Nat → Nat} {N : Nat} {p : Program} {e : Env} {s : State} {m : MethodId} {args : Array Value} {below : List Frame} {meth : Method} {c : Code} (hstk : l.stackTraces = false) (Z : mZ (mFree 161 ad s.heap.size) s) (hB : mBd p s m args meth c cX5_digestGames 7 wsX5_digestGames RX5 (some .long)) {a1 : Int64} {q : Int64 × mSt × mSt} {rec5 : mSt → mSt → Int64 → Int32 → Option (Int64 × mSt × mSt)} (hrec5 : ∀ (σ τ : mSt) (v3 : Int64) (v5 : Int32), rec5 σ τ v3 v5 = some q → ∀ (H : Heap) (locs : List Loc) (ls : Array Slot), mV D y (mFree 161 ad s.heap.size) s s.heap H locs 161 ad (mB y ad σ τ) → lv_has ls 7 [(0, .ref (ad 160)), (3, .long v3), (5, .int v5)] → W p l e { frames := 8, cells := 0, slots := 0, locals := 126 } s m args below meth c H locs 0 0 (MQ below (mQ (some (.long q.1)) D 161 ad (mB y ad q.2.1 q.2.2) s.heap.size) args s 0 0 (mFree 161 ad s.heap.size)) (F0 m 5 ls [])) : ∀ (n : Nat) (σ τ : mSt) (v3 : Int64) (v5 : Int32) (v6 : Int32), f_X5_digestGames_20 N a1 rec5 n σ τ v3 v5 v6 = some q → ∀ (H : Heap) (locs : List Loc) (ls : Array Slot), mV D y (mFree 161 ad s.heap.size) s s.heap H locs 161 ad (mB y ad σ τ) → lv_has ls 7 [(0, .ref (ad 160)), (3, .long v3), (5, .int v5), (6, .int v6)] → W p l e { frames := 8, cells := 0, slots := 0, locals := 126 } s m args below meth c H locs 0 0 (MQ below (mQ (some (.long q.1)) D 161 ad (mB y ad q.2.1 q.2.2) s.heap.size) args s 0 0 (mFree 161 ad s.heap.size)) (F0 m 20 ls []) := by
  obtain ⟨hx, hb, hml, hown, hts, hr, hlk⟩ := id hB
  intro n
  induction n with
  | zero =>
    intro σ τ v3 v5 v6 h
    exact nomatch h
  | succ n ih =>
    intro σ τ v3 v5 v6 h H locs ls V hl
    rw [f_X5_digestGames_20] at h
    refine lv_iload hx hb dX5_digestGames_20 (lv_at hl 3 rfl) ?_
    refine lv_bipush (v := 11) hx hb dX5_digestGames_22 (by decide) ?_
    refine lv_icmp_ge (tgt := 49) hx hb dX5_digestGames_24 (by decide) (fun hc7 => ?_) (fun hc7 => ?_)
    · replace h := ite_t hc7 h
      refine lv_iinc (v := v5 + 1) (lv' := [(5, .int (v5 + 1)), (0, .ref (ad 160)), (3, .long v3), (6, .int v6)]) hx hb dX5_digestGames_49 hl (k := 2) rfl rfl (by decide) rfl (fun ls hl => ?_)
      refine lv_goto (tgt := 5) hx hb dX5_digestGames_52 (by decide) ?_
      exact hrec5 _ _ _ _ h _ _ _ V (lv_sub hl [1, 2, 0] rfl)
    · replace h := ite_f hc7 h
      refine lv_lload_n hx hb dX5_digestGames_27 rfl (lv_at hl 1 rfl) ?_
      refine lv_ldc2 (v := 31) hx hb hown (hts _ (List.mem_of_getElem? (i := 3) rfl)) dX5_digestGames_28 ?_
      refine lv_lmul hx hb dX5_digestGames_31 ?_
      refine lv_aload_n hx hb dX5_digestGames_32 rfl (lv_at hl 0 rfl) ?_
      refine lv_iload hx hb dX5_digestGames_33 (lv_at hl 2 rfl) ?_
      refine lv_iload hx hb dX5_digestGames_35 (lv_at hl 3 rfl) ?_
      obtain ⟨q8, hq8, h⟩ := bd_s h
      cases ho11 : q8.1 with
      | inl r9 =>
        replace h := oCase_l ho11 h
        refine kBB (As := [.int v5, .int v6]) (rest := [.long (v3 * 31)]) ⟨hx, hb, hml, hown, hts⟩ Z V (mOi_plain ho11 (c_X5_game (l := l) (D := D) (y := y) (ad := ad) hstk hq8)) (cwV 2 hts gX5_digestGames_X5_game rfl rfl rfl (by decide +kernel) ⟨Nat.le_of_ble_eq_true rfl, Nat.le_of_ble_eq_true rfl⟩) (by omega) (mB_b y ad _ _) rfl rfl hl.1 rfl (Nat.le_of_ble_eq_true rfl) ⟨Nat.zero_le _, Nat.zero_le _⟩ rfl dX5_digestGames_37 (fun H locs V => ?_)
        refine lv_i2l hx hb dX5_digestGames_40 rfl ?_
        refine lv_ladd hx hb dX5_digestGames_41 ?_
        refine lv_lstore_n (lv' := [(3, .long ((v3 * 31) + r9.toInt64)), (0, .ref (ad 160)), (5, .int v5), (6, .int v6)]) hx hb dX5_digestGames_42 rfl hl (by decide) rfl (fun ls hl => ?_)
        refine lv_iinc (v := v6 + 1) (lv' := [(6, .int (v6 + 1)), (3, .long ((v3 * 31) + r9.toInt64)), (0, .ref (ad 160)), (5, .int v5)]) hx hb dX5_digestGames_43 hl (k := 3) rfl rfl (by decide) rfl (fun ls hl => ?_)
        refine lv_goto (tgt := 20) hx hb dX5_digestGames_46 (by decide) ?_
        exact ih _ _ _ _ _ h _ _ _ V (lv_sub hl [2, 1, 3, 0] rfl)
      | inr e10 =>
        exact nomatch (oCase_r ho11 h)
def f_X5_digestGames_5 (N : Nat) (a1 : Int64)  : Nat → mSt → mSt → Int64 → Int32 → Option (Int64 × mSt × mSt)
  | 0, _, _, _, _ => none
  | n + 1, σ, τ, v3, v5 => if (σ 23 0) ≤ v5 then some (v3, σ, τ) else f_X5_digestGames_20 N a1 (fun σ τ v3 v5 => f_X5_digestGames_5 N a1 n σ τ v3 v5) N σ τ v3 v5 0
set_option maxHeartbeats 4000000 in
set_option maxRecDepth 100000 in
theorem w_X5_digestGames_5 {l : Launch} {D : va_G} {y : Nat → ClassId} {ad : Nat → Nat} {N : Nat} {p : Program} {e : Env} {s : State} {m : MethodId} {args : Array Value} {below : List Frame} {meth : Method} {c : Code} (hstk : l.stackTraces = false) (Z : mZ (mFree 161 ad s.heap.size) s) (hB : mBd p s m args meth c cX5_digestGames 7 wsX5_digestGames RX5 (some .long)) {a1 : Int64} {q : Int64 × mSt × mSt}   : ∀ (n : Nat) (σ τ : mSt) (v3 : Int64) (v5 : Int32), f_X5_digestGames_5 N a1  n σ τ v3 v5 = some q → ∀ (H : Heap) (locs : List Loc) (ls : Array Slot), mV D y (mFree 161 ad s.heap.size) s s.heap H locs 161 ad (mB y ad σ τ) → lv_has ls 7 [(0, .ref (ad 160)), (3, .long v3), (5, .int v5)] → W p l e { frames := 8, cells := 0, slots := 0, locals := 126 } s m args below meth c H locs 0 0 (MQ below (mQ (some (.long q.1)) D 161 ad (mB y ad q.2.1 q.2.2) s.heap.size) args s 0 0 (mFree 161 ad s.heap.size)) (F0 m 5 ls []) := by
  obtain ⟨hx, hb, hml, hown, hts, hr, hlk⟩ := id hB
  intro n
  induction n with
  | zero =>
    intro σ τ v3 v5 h
    exact nomatch h
  | succ n ih =>
    intro σ τ v3 v5 h H locs ls V hl
    rw [f_X5_digestGames_5] at h
    refine lv_iload hx hb dX5_digestGames_5 (lv_at hl 2 rfl) ?_
    refine lv_aload_n hx hb dX5_digestGames_7 rfl (lv_at hl 0 rfl) ?_
    refine rB_now hx hb hts hown (fun _ h => List.mem_cons_of_mem _ (List.mem_append_left _ (List.mem_append_left _ (List.mem_append_left _ (List.mem_append_left _ (List.mem_append_left _ (List.mem_append_right _ h))))))) V (hts _ (List.mem_of_getElem? (i := 1) rfl)) dX5_digestGames_8 ?_
    refine gB_T hx hb hts hown (fun _ h => List.mem_cons_of_mem _ (List.mem_append_left _ (List.mem_append_left _ (List.mem_append_left _ (List.mem_append_left _ (List.mem_append_right _ h)))))) V 2 23 (by decide) rfl (hts _ (List.mem_of_getElem? (i := 2) rfl)) dX5_digestGames_11 ?_
    refine lv_icmp_ge (tgt := 55) hx hb dX5_digestGames_14 (by decide) (fun hc12 => ?_) (fun hc12 => ?_)
    · replace h := ite_t hc12 h
      refine lv_lload_n hx hb dX5_digestGames_55 rfl (lv_at hl 1 rfl) ?_
      obtain rfl := Option.some.inj h
      exact m_lret hx hb hr hlk V (Nat.zero_le _) (Nat.zero_le _) dX5_digestGames_56
    · replace h := ite_f hc12 h
      refine lv_iconst (v := 0) hx hb dX5_digestGames_17 (by decide) ?_
      refine lv_istore (lv' := [(6, .int 0), (0, .ref (ad 160)), (3, .long v3), (5, .int v5)]) hx hb dX5_digestGames_18 hl (by decide) rfl (fun ls hl => ?_)
      exact w_X5_digestGames_20 hstk Z hB ih _ _ _ _ _ _ h _ _ _ V (lv_sub hl [1, 2, 3, 0] rfl)
def f_X5_digestGames (N : Nat) (σ τ : mSt) (a1 : Int64) : Option (Int64 × mSt × mSt) := f_X5_digestGames_5 N a1 N σ τ a1 0
set_option maxHeartbeats 4000000 in
set_option maxRecDepth 100000 in
theorem c_X5_digestGames {l : Launch} {D : va_G} {y : Nat → ClassId} {ad : Nat → Nat} {N : Nat} {σ τ : mSt} {a1 : Int64} {q : Int64 × mSt × mSt} (hstk : l.stackTraces = false) (h : f_X5_digestGames N σ τ a1 = some q) : mC l yX5_digestGames wsX5_digestGames { frames := 8, cells := 0, slots := 0, locals := 126 } D y 161 ad mZ (mB y ad σ τ) [.ref (ad 160), .long a1] (some (.long q.1)) (mB y ad q.2.1 q.2.2) 0 0 := by
  refine m_start (cc := cX5_digestGames) (maxL := 7) (ret := (some .long)) (by decide) rfl (Nat.le_of_ble_eq_true rfl) (fun p e s m args below meth c ls hB _ V Z hl => ?_)
  obtain ⟨hx, hb, hml, hown, hts, hr, hlk⟩ := id hB
  have hl : lv_has ls 7 [(0, .ref (ad 160)), (1, .long a1)] := hl
  rw [f_X5_digestGames] at h
  refine lv_lload_n hx hb dX5_digestGames_0 rfl (lv_at hl 1 rfl) ?_
  refine lv_lstore_n (lv' := [(3, .long a1), (0, .ref (ad 160)), (1, .long a1)]) hx hb dX5_digestGames_1 rfl hl (by decide) rfl (fun ls hl => ?_)
  refine lv_iconst (v := 0) hx hb dX5_digestGames_2 (by decide) ?_
  refine lv_istore (lv' := [(5, .int 0), (3, .long a1), (0, .ref (ad 160)), (1, .long a1)]) hx hb dX5_digestGames_3 hl (by decide) rfl (fun ls hl => ?_)
  exact w_X5_digestGames_5 hstk Z hB _ _ _ _ _ h _ _ _ V (lv_sub hl [2, 1, 0] rfl)
-- X5_digest
def f_X5_digest_6 (N : Nat)   : Nat → mSt → mSt → Int64 → Int32 → Option (Int64 × mSt × mSt)
  | 0, _, _, _, _ => none
  | n + 1, σ, τ, v1, v3 => if 11 ≤ v3 then (f_X5_digestPlayers N σ τ v1).bind fun q10 => (f_X5_digestLoans N q10.2.1 q10.2.2 q10.1).bind fun q11 => (f_X5_digestGames N q11.2.1 q11.2.2 q11.1).bind fun q12 => some (q12.1, q12.2.1, q12.2.2) else (f_X5_count N σ τ v3).bind fun q13 => oCase q13.1 (fun r14 => f_X5_digest_6 N n q13.2.1 q13.2.2 ((v1 * 31) + r14.toInt64) (v3 + 1)) (fun _ => none)
set_option maxHeartbeats 4000000 in
set_option maxRecDepth 100000 in
theorem w_X5_digest_6 {l : Launch} {D : va_G} {y : Nat → ClassId} {ad : Nat → Nat} {N : Nat} {p : Program} {e : Env} {s : State} {m : MethodId} {args : Array Value} {below : List Frame} {meth : Method} {c : Code} (hstk : l.stackTraces = false) (Z : mZ (mFree 161 ad s.heap.size) s) (hB : mBd p s m args meth c cX5_digest 4 wsX5_digest RX5 (some .long))  {q : Int64 × mSt × mSt}   : ∀ (n : Nat) (σ τ : mSt) (v1 : Int64) (v3 : Int32), f_X5_digest_6 N   n σ τ v1 v3 = some q → ∀ (H : Heap) (locs : List Loc) (ls : Array Slot), mV D y (mFree 161 ad s.heap.size) s s.heap H locs 161 ad (mB y ad σ τ) → lv_has ls 4 [(0, .ref (ad 160)), (1, .long v1), (3, .int v3)] → W p l e { frames := 9, cells := 0, slots := 0, locals := 152 } s m args below meth c H locs 0 0 (MQ below (mQ (some (.long q.1)) D 161 ad (mB y ad q.2.1 q.2.2) s.heap.size) args s 0 0 (mFree 161 ad s.heap.size)) (F0 m 6 ls []) := by
  obtain ⟨hx, hb, hml, hown, hts, hr, hlk⟩ := id hB
  intro n
  induction n with
  | zero =>
    intro σ τ v1 v3 h
    exact nomatch h
  | succ n ih =>
    intro σ τ v1 v3 h H locs ls V hl
    rw [f_X5_digest_6] at h
    refine lv_iload_n hx hb dX5_digest_6 rfl (lv_at hl 2 rfl) ?_
    refine lv_bipush (v := 11) hx hb dX5_digest_7 (by decide) ?_
    refine lv_icmp_ge (tgt := 31) hx hb dX5_digest_9 (by decide) (fun hc9 => ?_) (fun hc9 => ?_)
    · replace h := ite_t hc9 h
      refine lv_aload_n hx hb dX5_digest_31 rfl (lv_at hl 0 rfl) ?_
      refine lv_lload_n hx hb dX5_digest_32 rfl (lv_at hl 1 rfl) ?_
      obtain ⟨q10, hq10, h⟩ := bd_s h
      refine kBB (As := [.long v1]) (rest := []) ⟨hx, hb, hml, hown, hts⟩ Z V (c_X5_digestPlayers (l := l) (D := D) (y := y) (ad := ad) hstk hq10) (cwV 1 hts gX5_digest_X5_digestPlayers rfl rfl rfl (by decide +kernel) ⟨Nat.le_of_ble_eq_true rfl, Nat.le_of_ble_eq_true rfl⟩) (by omega) (mB_b y ad _ _) rfl rfl hl.1 rfl (Nat.le_of_ble_eq_true rfl) ⟨Nat.zero_le _, Nat.zero_le _⟩ rfl dX5_digest_33 (fun H locs V => ?_)
      refine lv_lstore_n (lv' := [(1, .long q10.1), (0, .ref (ad 160)), (3, .int v3)]) hx hb dX5_digest_36 rfl hl (by decide) rfl (fun ls hl => ?_)
      refine lv_aload_n hx hb dX5_digest_37 rfl (lv_at hl 1 rfl) ?_
      refine lv_lload_n hx hb dX5_digest_38 rfl (lv_at hl 0 rfl) ?_
      obtain ⟨q11, hq11, h⟩ := bd_s h
      refine kBB (As := [.long q10.1]) (rest := []) ⟨hx, hb, hml, hown, hts⟩ Z V (c_X5_digestLoans (l := l) (D := D) (y := y) (ad := ad) hstk hq11) (cwV 1 hts gX5_digest_X5_digestLoans rfl rfl rfl (by decide +kernel) ⟨Nat.le_of_ble_eq_true rfl, Nat.le_of_ble_eq_true rfl⟩) (by omega) (mB_b y ad _ _) rfl rfl hl.1 rfl (Nat.le_of_ble_eq_true rfl) ⟨Nat.zero_le _, Nat.zero_le _⟩ rfl dX5_digest_39 (fun H locs V => ?_)
      refine lv_lstore_n (lv' := [(1, .long q11.1), (0, .ref (ad 160)), (3, .int v3)]) hx hb dX5_digest_42 rfl hl (by decide) rfl (fun ls hl => ?_)
      refine lv_aload_n hx hb dX5_digest_43 rfl (lv_at hl 1 rfl) ?_
      refine lv_lload_n hx hb dX5_digest_44 rfl (lv_at hl 0 rfl) ?_
      obtain ⟨q12, hq12, h⟩ := bd_s h
      refine kBB (As := [.long q11.1]) (rest := []) ⟨hx, hb, hml, hown, hts⟩ Z V (c_X5_digestGames (l := l) (D := D) (y := y) (ad := ad) hstk hq12) (cwV 1 hts gX5_digest_X5_digestGames rfl rfl rfl (by decide +kernel) ⟨Nat.le_of_ble_eq_true rfl, Nat.le_of_ble_eq_true rfl⟩) (by omega) (mB_b y ad _ _) rfl rfl hl.1 rfl (Nat.le_of_ble_eq_true rfl) ⟨Nat.zero_le _, Nat.zero_le _⟩ rfl dX5_digest_45 (fun H locs V => ?_)
      obtain rfl := Option.some.inj h
      exact m_lret hx hb hr hlk V (Nat.zero_le _) (Nat.zero_le _) dX5_digest_48
    · replace h := ite_f hc9 h
      refine lv_lload_n hx hb dX5_digest_12 rfl (lv_at hl 1 rfl) ?_
      refine lv_ldc2 (v := 31) hx hb hown (hts _ (List.mem_of_getElem? (i := 2) rfl)) dX5_digest_13 ?_
      refine lv_lmul hx hb dX5_digest_16 ?_
      refine lv_aload_n hx hb dX5_digest_17 rfl (lv_at hl 0 rfl) ?_
      refine lv_iload_n hx hb dX5_digest_18 rfl (lv_at hl 2 rfl) ?_
      obtain ⟨q13, hq13, h⟩ := bd_s h
      cases ho16 : q13.1 with
      | inl r14 =>
        replace h := oCase_l ho16 h
        refine kBB (As := [.int v3]) (rest := [.long (v1 * 31)]) ⟨hx, hb, hml, hown, hts⟩ Z V (mOi_plain ho16 (c_X5_count (l := l) (D := D) (y := y) (ad := ad) hstk hq13)) (cwV 1 hts gX5_digest_X5_count rfl rfl rfl (by decide +kernel) ⟨Nat.le_of_ble_eq_true rfl, Nat.le_of_ble_eq_true rfl⟩) (by omega) (mB_b y ad _ _) rfl rfl hl.1 rfl (Nat.le_of_ble_eq_true rfl) ⟨Nat.zero_le _, Nat.zero_le _⟩ rfl dX5_digest_19 (fun H locs V => ?_)
        refine lv_i2l hx hb dX5_digest_22 rfl ?_
        refine lv_ladd hx hb dX5_digest_23 ?_
        refine lv_lstore_n (lv' := [(1, .long ((v1 * 31) + r14.toInt64)), (0, .ref (ad 160)), (3, .int v3)]) hx hb dX5_digest_24 rfl hl (by decide) rfl (fun ls hl => ?_)
        refine lv_iinc (v := v3 + 1) (lv' := [(3, .int (v3 + 1)), (1, .long ((v1 * 31) + r14.toInt64)), (0, .ref (ad 160))]) hx hb dX5_digest_25 hl (k := 2) rfl rfl (by decide) rfl (fun ls hl => ?_)
        refine lv_goto (tgt := 6) hx hb dX5_digest_28 (by decide) ?_
        exact ih _ _ _ _ h _ _ _ V (lv_sub hl [2, 1, 0] rfl)
      | inr e15 =>
        exact nomatch (oCase_r ho16 h)
def f_X5_digest (N : Nat) (σ τ : mSt)  : Option (Int64 × mSt × mSt) := f_X5_digest_6 N N σ τ 509 0
set_option maxHeartbeats 4000000 in
set_option maxRecDepth 100000 in
theorem c_X5_digest {l : Launch} {D : va_G} {y : Nat → ClassId} {ad : Nat → Nat} {N : Nat} {σ τ : mSt}  {q : Int64 × mSt × mSt} (hstk : l.stackTraces = false) (h : f_X5_digest N σ τ = some q) : mC l yX5_digest wsX5_digest { frames := 9, cells := 0, slots := 0, locals := 152 } D y 161 ad mZ (mB y ad σ τ) [.ref (ad 160)] (some (.long q.1)) (mB y ad q.2.1 q.2.2) 0 0 := by
  refine m_start (cc := cX5_digest) (maxL := 4) (ret := (some .long)) (by decide) rfl (Nat.le_of_ble_eq_true rfl) (fun p e s m args below meth c ls hB _ V Z hl => ?_)
  obtain ⟨hx, hb, hml, hown, hts, hr, hlk⟩ := id hB
  have hl : lv_has ls 4 [(0, .ref (ad 160))] := hl
  rw [f_X5_digest] at h
  refine lv_ldc2 (v := 509) hx hb hown (hts _ (List.mem_of_getElem? (i := 1) rfl)) dX5_digest_0 ?_
  refine lv_lstore_n (lv' := [(1, .long 509), (0, .ref (ad 160))]) hx hb dX5_digest_3 rfl hl (by decide) rfl (fun ls hl => ?_)
  refine lv_iconst (v := 0) hx hb dX5_digest_4 (by decide) ?_
  refine lv_istore_n (lv' := [(3, .int 0), (1, .long 509), (0, .ref (ad 160))]) hx hb dX5_digest_5 rfl hl (by decide) rfl (fun ls hl => ?_)
  exact w_X5_digest_6 hstk Z hB _ _ _ _ _ h _ _ _ V (lv_sub hl [2, 1, 0] rfl)
