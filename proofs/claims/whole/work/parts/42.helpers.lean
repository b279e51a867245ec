def f_L_addPlayer (N : Nat) (σ τ : mSt) (o : Nat → Int64) (a1 : Int32) : Option (Int32 × mSt × mSt × (Nat → Int64)) := (f_X5_addPlayer N σ τ a1).bind fun q1 => oCase q1.1 (fun r1 => some (0, q1.2.1, q1.2.2, vp_updL o (0 : Int32).toNatClampNeg r1.toInt64)) (fun e1 => if e1 = "java/lang/IllegalArgumentException" then some (1, q1.2.1, q1.2.2, o) else if e1 = "java/lang/IllegalStateException" then some (2, q1.2.1, q1.2.2, o) else  none)
set_option maxHeartbeats 4000000 in
set_option maxRecDepth 100000 in
theorem c_L_addPlayer {l : Launch} {D : va_G} {y : Nat → ClassId} {ad : Nat → Nat} {N : Nat} {σ τ : mSt} {o : Nat → Int64} {a1 : Int32} {q : Int32 × mSt × mSt × (Nat → Int64)} (hstk : l.stackTraces = false) (h : f_L_addPlayer N σ τ o a1 = some q) : mC l yL_addPlayer wsL_addPlayer { frames := 8, cells := 1, slots := 6, locals := 125 } D y 162 ad mZ2 (mHw y ad σ τ o) [.ref (ad 160), .int a1, .ref (ad 161)] (some (.int q.1)) (mHw y ad q.2.1 q.2.2.1 q.2.2.2) 1 6 := by
  refine mCX_plain (m_startW (cc := cL_addPlayer) (maxL := 4) (ret := (some .int)) (by decide) rfl (Nat.le_of_ble_eq_true rfl) (fun p e s m args below meth c ls hB htab V Z hl => ?_))
  obtain ⟨hx, hb, hml, hown, hts, hr, hlk⟩ := id hB
  have hl : lv_has ls 4 [(0, .ref (ad 160)), (1, .int a1), (2, .ref (ad 161))] := hl
  rw [f_L_addPlayer] at h
  refine lv_aload_n hx hb dL_addPlayer_0 rfl (lv_at hl 2 rfl) ?_
  refine lv_iconst (v := 0) hx hb dL_addPlayer_1 (by decide) ?_
  refine lv_aload_n hx hb dL_addPlayer_2 rfl (lv_at hl 0 rfl) ?_
  refine lv_iload_n hx hb dL_addPlayer_3 rfl (lv_at hl 1 rfl) ?_
  obtain ⟨q1, hq1, h⟩ := bd_s h
  cases ho1 : q1.1 with
  | inl r1 =>
    replace h := oCase_l ho1 h
    obtain rfl := Option.some.inj h
    refine kHB (As := [.int a1]) (rest := [.int 0, .ref (ad 161)]) ⟨hx, hb, hml, hown, hts⟩ Z.1 V (mOi_plain ho1 (c_X5_addPlayer (l := l) (D := D) (y := y) (ad := ad) hstk hq1)) (cwV 1 hts gL_addPlayer_X5_addPlayer rfl rfl rfl (by decide +kernel) ⟨Nat.le_of_ble_eq_true rfl, Nat.le_of_ble_eq_true rfl⟩) (by omega) ((mHw_0 (by omega)).trans (mB_b y ad _ _)) rfl rfl hl.1 rfl (Nat.le_of_ble_eq_true rfl) ⟨Nat.zero_le _, Nat.zero_le _⟩ rfl dL_addPlayer_4 (fun H locs V => ?_)
    refine lv_i2l hx hb dL_addPlayer_7 rfl ?_
    refine oH_st hx hb V (by decide +kernel) dL_addPlayer_8 (fun H locs V => ?_)
    refine lv_goto (tgt := 18) hx hb dL_addPlayer_9 (by decide) ?_
    refine lv_iconst (v := 0) hx hb dL_addPlayer_18 (by decide) ?_
    exact m_iretX hx hb hr hlk V (Nat.zero_le _) (Nat.zero_le _) rfl dL_addPlayer_19
  | inr e1 =>
    replace h := oCase_r ho1 h
    by_cases he0 : e1 = "java/lang/IllegalArgumentException"
    · replace h := ite_t he0 h
      obtain rfl := Option.some.inj h
      subst he0
      refine kHBx (As := [.int a1]) (rest := [.int 0, .ref (ad 161)]) ⟨hx, hb, hml, hown, hts⟩ Z.1 V (mOi_throw ho1 (c_X5_addPlayer (l := l) (D := D) (y := y) (ad := ad) hstk hq1)) (cwV 1 hts gL_addPlayer_X5_addPlayer rfl rfl rfl (by decide +kernel) ⟨Nat.le_of_ble_eq_true rfl, Nat.le_of_ble_eq_true rfl⟩) (by omega) ((mHw_0 (by omega)).trans (mB_b y ad _ _)) rfl rfl hl.1 rfl (Nat.le_of_ble_eq_true rfl) ⟨Nat.le_of_ble_eq_true rfl, Nat.le_of_ble_eq_true rfl⟩ dL_addPlayer_4 (fun ce q9 H locs V hce hcv hcl => ?_)
      refine vx_catch (name := "java/lang/IllegalArgumentException") hown [] ⟨0, 9, 12, 13⟩ [⟨0, 9, 15, 15⟩] (by rw [htab]; rfl) ?_ (by decide) (by decide) (va_Nw.use rfl (Z.2.2 _ (List.mem_of_getElem? (i := 0) rfl))) (va_Nw.use (mZw_tab _ (List.mem_of_getElem? (i := 1) rfl)) (Z.1.2.1 _ (List.mem_of_getElem? (i := 1) rfl))) hce hcv hcl ?_
      · intro z9 hz9
        exact absurd hz9 List.not_mem_nil
      · refine lv_astore_n (lv' := [(3, .ref q9), (0, .ref (ad 160)), (1, .int a1), (2, .ref (ad 161))]) hx hb dL_addPlayer_12 rfl hl (by decide) rfl (fun ls hl => ?_)
        refine lv_iconst (v := 1) hx hb dL_addPlayer_13 (by decide) ?_
        exact m_iretX hx hb hr hlk V (Nat.le_of_ble_eq_true rfl) (Nat.le_of_ble_eq_true rfl) rfl dL_addPlayer_14
    · replace h := ite_f he0 h
      by_cases he1 : e1 = "java/lang/IllegalStateException"
      · replace h := ite_t he1 h
        obtain rfl := Option.some.inj h
        subst he1
        refine kHBx (As := [.int a1]) (rest := [.int 0, .ref (ad 161)]) ⟨hx, hb, hml, hown, hts⟩ Z.1 V (mOi_throw ho1 (c_X5_addPlayer (l := l) (D := D) (y := y) (ad := ad) hstk hq1)) (cwV 1 hts gL_addPlayer_X5_addPlayer rfl rfl rfl (by decide +kernel) ⟨Nat.le_of_ble_eq_true rfl, Nat.le_of_ble_eq_true rfl⟩) (by omega) ((mHw_0 (by omega)).trans (mB_b y ad _ _)) rfl rfl hl.1 rfl (Nat.le_of_ble_eq_true rfl) ⟨Nat.le_of_ble_eq_true rfl, Nat.le_of_ble_eq_true rfl⟩ dL_addPlayer_4 (fun ce q9 H locs V hce hcv hcl => ?_)
        refine vx_catch (name := "java/lang/IllegalStateException") hown [⟨0, 9, 12, 13⟩] ⟨0, 9, 15, 15⟩ [] (by rw [htab]; rfl) ?_ (by decide) (by decide) (va_Nw.use rfl (Z.2.2 _ (List.mem_of_getElem? (i := 1) rfl))) (va_Nw.use (mZw_tab _ (List.mem_of_getElem? (i := 2) rfl)) (Z.1.2.1 _ (List.mem_of_getElem? (i := 2) rfl))) hce hcv hcl ?_
        · intro z9 hz9
          rcases List.mem_cons.mp hz9 with rfl | hz9
          · exact Or.inr ⟨by decide, _, va_Nw.use rfl (Z.2.2 _ (List.mem_of_getElem? (i := 0) rfl)), Z.2.1 _ (List.mem_of_getElem? (i := 2) rfl)⟩
          exact absurd hz9 List.not_mem_nil
        · refine lv_astore_n (lv' := [(3, .ref q9), (0, .ref (ad 160)), (1, .int a1), (2, .ref (ad 161))]) hx hb dL_addPlayer_15 rfl hl (by decide) rfl (fun ls hl => ?_)
          refine lv_iconst (v := 2) hx hb dL_addPlayer_16 (by decide) ?_
          exact m_iretX hx hb hr hlk V (Nat.le_of_ble_eq_true rfl) (Nat.le_of_ble_eq_true rfl) rfl dL_addPlayer_17
      · replace h := ite_f he1 h
        exact nomatch h
def f_L_player (N : Nat) (σ τ : mSt) (o : Nat → Int64) (a1 : Int32) (a2 : Int32) : Option (Int32 × mSt × mSt × (Nat → Int64)) := (f_X5_player N σ τ a1 a2).bind fun q1 => oCase q1.1 (fun r1 => some (0, q1.2.1, q1.2.2, vp_updL o (0 : Int32).toNatClampNeg r1.toInt64)) (fun e1 => if e1 = "java/lang/IndexOutOfBoundsException" then some (1, q1.2.1, q1.2.2, o) else  none)
set_option maxHeartbeats 4000000 in
set_option maxRecDepth 100000 in
theorem c_L_player {l : Launch} {D : va_G} {y : Nat → ClassId} {ad : Nat → Nat} {N : Nat} {σ τ : mSt} {o : Nat → Int64} {a1 : Int32} {a2 : Int32} {q : Int32 × mSt × mSt × (Nat → Int64)} (hstk : l.stackTraces = false) (h : f_L_player N σ τ o a1 a2 = some q) : mC l yL_player wsL_player { frames := 8, cells := 1, slots := 6, locals := 126 } D y 162 ad mZ2 (mHw y ad σ τ o) [.ref (ad 160), .int a1, .int a2, .ref (ad 161)] (some (.int q.1)) (mHw y ad q.2.1 q.2.2.1 q.2.2.2) 1 6 := by
  refine mCX_plain (m_startW (cc := cL_player) (maxL := 5) (ret := (some .int)) (by decide) rfl (Nat.le_of_ble_eq_true rfl) (fun p e s m args below meth c ls hB htab V Z hl => ?_))
  obtain ⟨hx, hb, hml, hown, hts, hr, hlk⟩ := id hB
  have hl : lv_has ls 5 [(0, .ref (ad 160)), (1, .int a1), (2, .int a2), (3, .ref (ad 161))] := hl
  rw [f_L_player] at h
  refine lv_aload_n hx hb dL_player_0 rfl (lv_at hl 3 rfl) ?_
  refine lv_iconst (v := 0) hx hb dL_player_1 (by decide) ?_
  refine lv_aload_n hx hb dL_player_2 rfl (lv_at hl 0 rfl) ?_
  refine lv_iload_n hx hb dL_player_3 rfl (lv_at hl 1 rfl) ?_
  refine lv_iload_n hx hb dL_player_4 rfl (lv_at hl 2 rfl) ?_
  obtain ⟨q1, hq1, h⟩ := bd_s h
  cases ho1 : q1.1 with
  | inl r1 =>
    replace h := oCase_l ho1 h
    obtain rfl := Option.some.inj h
    refine kHB (As := [.int a1, .int a2]) (rest := [.int 0, .ref (ad 161)]) ⟨hx, hb, hml, hown, hts⟩ Z.1 V (mOi_plain ho1 (c_X5_player (l := l) (D := D) (y := y) (ad := ad) hstk hq1)) (cwV 2 hts gL_player_X5_player rfl rfl rfl (by decide +kernel) ⟨Nat.le_of_ble_eq_true rfl, Nat.le_of_ble_eq_true rfl⟩) (by omega) ((mHw_0 (by omega)).trans (mB_b y ad _ _)) rfl rfl hl.1 rfl (Nat.le_of_ble_eq_true rfl) ⟨Nat.zero_le _, Nat.zero_le _⟩ rfl dL_player_5 (fun H locs V => ?_)
    refine lv_i2l hx hb dL_player_8 rfl ?_
    refine oH_st hx hb V (by decide +kernel) dL_player_9 (fun H locs V => ?_)
    refine lv_goto (tgt := 17) hx hb dL_player_10 (by decide) ?_
    refine lv_iconst (v := 0) hx hb dL_player_17 (by decide) ?_
    exact m_iretX hx hb hr hlk V (Nat.zero_le _) (Nat.zero_le _) rfl dL_player_18
  | inr e1 =>
    replace h := oCase_r ho1 h
    by_cases he0 : e1 = "java/lang/IndexOutOfBoundsException"
    · replace h := ite_t he0 h
      obtain rfl := Option.some.inj h
      subst he0
      refine kHBx (As := [.int a1, .int a2]) (rest := [.int 0, .ref (ad 161)]) ⟨hx, hb, hml, hown, hts⟩ Z.1 V (mOi_throw ho1 (c_X5_player (l := l) (D := D) (y := y) (ad := ad) hstk hq1)) (cwV 2 hts gL_player_X5_player rfl rfl rfl (by decide +kernel) ⟨Nat.le_of_ble_eq_true rfl, Nat.le_of_ble_eq_true rfl⟩) (by omega) ((mHw_0 (by omega)).trans (mB_b y ad _ _)) rfl rfl hl.1 rfl (Nat.le_of_ble_eq_true rfl) ⟨Nat.le_of_ble_eq_true rfl, Nat.le_of_ble_eq_true rfl⟩ dL_player_5 (fun ce q9 H locs V hce hcv hcl => ?_)
      refine vx_catch (name := "java/lang/IndexOutOfBoundsException") hown [] ⟨0, 10, 13, 21⟩ [] (by rw [htab]; rfl) ?_ (by decide) (by decide) (va_Nw.use rfl (Z.2.2 _ (List.mem_of_getElem? (i := 2) rfl))) (va_Nw.use (mZw_tab _ (List.mem_of_getElem? (i := 0) rfl)) (Z.1.2.1 _ (List.mem_of_getElem? (i := 0) rfl))) hce hcv hcl ?_
      · intro z9 hz9
        exact absurd hz9 List.not_mem_nil
      · refine lv_astore (lv' := [(4, .ref q9), (0, .ref (ad 160)), (1, .int a1), (2, .int a2), (3, .ref (ad 161))]) hx hb dL_player_13 hl (by decide) rfl (fun ls hl => ?_)
        refine lv_iconst (v := 1) hx hb dL_player_15 (by decide) ?_
        exact m_iretX hx hb hr hlk V (Nat.le_of_ble_eq_true rfl) (Nat.le_of_ble_eq_true rfl) rfl dL_player_16
    · replace h := ite_f he0 h
      exact nomatch h
def f_L_buy (N : Nat) (σ τ : mSt) (o : Nat → Int64) (a1 : Int32) (a2 : Int32) : Option (Int32 × mSt × mSt × (Nat → Int64)) := (f_X5_buy N σ τ a1 a2).bind fun q1 => oCase q1.1 (fun r1 => some (0, q1.2.1, q1.2.2, vp_updL o (0 : Int32).toNatClampNeg r1.toInt64)) (fun e1 => if e1 = "java/lang/IndexOutOfBoundsException" then some (1, q1.2.1, q1.2.2, o) else if e1 = "java/lang/IllegalArgumentException" then some (2, q1.2.1, q1.2.2, o) else if e1 = "java/lang/IllegalStateException" then some (3, q1.2.1, q1.2.2, o) else  none)
set_option maxHeartbeats 4000000 in
set_option maxRecDepth 100000 in
theorem c_L_buy {l : Launch} {D : va_G} {y : Nat → ClassId} {ad : Nat → Nat} {N : Nat} {σ τ : mSt} {o : Nat → Int64} {a1 : Int32} {a2 : Int32} {q : Int32 × mSt × mSt × (Nat → Int64)} (hstk : l.stackTraces = false) (h : f_L_buy N σ τ o a1 a2 = some q) : mC l yL_buy wsL_buy { frames := 8, cells := 1, slots := 6, locals := 127 } D y 162 ad mZ2 (mHw y ad σ τ o) [.ref (ad 160), .int a1, .int a2, .ref (ad 161)] (some (.int q.1)) (mHw y ad q.2.1 q.2.2.1 q.2.2.2) 1 6 := by
  refine mCX_plain (m_startW (cc := cL_buy) (maxL := 5) (ret := (some .int)) (by decide) rfl (Nat.le_of_ble_eq_true rfl) (fun p e s m args below meth c ls hB htab V Z hl => ?_))
  obtain ⟨hx, hb, hml, hown, hts, hr, hlk⟩ := id hB
  have hl : lv_has ls 5 [(0, .ref (ad 160)), (1, .int a1), (2, .int a2), (3, .ref (ad 161))] := hl
  rw [f_L_buy] at h
  refine lv_aload_n hx hb dL_buy_0 rfl (lv_at hl 3 rfl) ?_
  refine lv_iconst (v := 0) hx hb dL_buy_1 (by decide) ?_
  refine lv_aload_n hx hb dL_buy_2 rfl (lv_at hl 0 rfl) ?_
  refine lv_iload_n hx hb dL_buy_3 rfl (lv_at hl 1 rfl) ?_
  refine lv_iload_n hx hb dL_buy_4 rfl (lv_at hl 2 rfl) ?_
  obtain ⟨q1, hq1, h⟩ := bd_s h
  cases ho1 : q1.1 with
  | inl r1 =>
    replace h := oCase_l ho1 h
    obtain rfl := Option.some.inj h
    refine kHB (As := [.int a1, .int a2]) (rest := [.int 0, .ref (ad 161)]) ⟨hx, hb, hml, hown, hts⟩ Z.1 V (mOi_plain ho1 (c_X5_buy (l := l) (D := D) (y := y) (ad := ad) hstk hq1)) (cwV 2 hts gL_buy_X5_buy rfl rfl rfl (by decide +kernel) ⟨Nat.le_of_ble_eq_true rfl, Nat.le_of_ble_eq_true rfl⟩) (by omega) ((mHw_0 (by omega)).trans (mB_b y ad _ _)) rfl rfl hl.1 rfl (Nat.le_of_ble_eq_true rfl) ⟨Nat.zero_le _, Nat.zero_le _⟩ rfl dL_buy_5 (fun H locs V => ?_)
    refine lv_i2l hx hb dL_buy_8 rfl ?_
    refine oH_st hx hb V (by decide +kernel) dL_buy_9 (fun H locs V => ?_)
    refine lv_goto (tgt := 25) hx hb dL_buy_10 (by decide) ?_
    refine lv_iconst (v := 0) hx hb dL_buy_25 (by decide) ?_
    exact m_iretX hx hb hr hlk V (Nat.zero_le _) (Nat.zero_le _) rfl dL_buy_26
  | inr e1 =>
    replace h := oCase_r ho1 h
    by_cases he0 : e1 = "java/lang/IndexOutOfBoundsException"
    · replace h := ite_t he0 h
      obtain rfl := Option.some.inj h
      subst he0
      refine kHBx (As := [.int a1, .int a2]) (rest := [.int 0, .ref (ad 161)]) ⟨hx, hb, hml, hown, hts⟩ Z.1 V (mOi_throw ho1 (c_X5_buy (l := l) (D := D) (y := y) (ad := ad) hstk hq1)) (cwV 2 hts gL_buy_X5_buy rfl rfl rfl (by decide +kernel) ⟨Nat.le_of_ble_eq_true rfl, Nat.le_of_ble_eq_true rfl⟩) (by omega) ((mHw_0 (by omega)).trans (mB_b y ad _ _)) rfl rfl hl.1 rfl (Nat.le_of_ble_eq_true rfl) ⟨Nat.le_of_ble_eq_true rfl, Nat.le_of_ble_eq_true rfl⟩ dL_buy_5 (fun ce q9 H locs V hce hcv hcl => ?_)
      refine vx_catch (name := "java/lang/IndexOutOfBoundsException") hown [] ⟨0, 10, 13, 21⟩ [⟨0, 10, 17, 13⟩, ⟨0, 10, 21, 15⟩] (by rw [htab]; rfl) ?_ (by decide) (by decide) (va_Nw.use rfl (Z.2.2 _ (List.mem_of_getElem? (i := 2) rfl))) (va_Nw.use (mZw_tab _ (List.mem_of_getElem? (i := 0) rfl)) (Z.1.2.1 _ (List.mem_of_getElem? (i := 0) rfl))) hce hcv hcl ?_
      · intro z9 hz9
        exact absurd hz9 List.not_mem_nil
      · refine lv_astore (lv' := [(4, .ref q9), (0, .ref (ad 160)), (1, .int a1), (2, .int a2), (3, .ref (ad 161))]) hx hb dL_buy_13 hl (by decide) rfl (fun ls hl => ?_)
        refine lv_iconst (v := 1) hx hb dL_buy_15 (by decide) ?_
        exact m_iretX hx hb hr hlk V (Nat.le_of_ble_eq_true rfl) (Nat.le_of_ble_eq_true rfl) rfl dL_buy_16
    · replace h := ite_f he0 h
      by_cases he1 : e1 = "java/lang/IllegalArgumentException"
      · replace h := ite_t he1 h
        obtain rfl := Option.some.inj h
        subst he1
        refine kHBx (As := [.int a1, .int a2]) (rest := [.int 0, .ref (ad 161)]) ⟨hx, hb, hml, hown, hts⟩ Z.1 V (mOi_throw ho1 (c_X5_buy (l := l) (D := D) (y := y) (ad := ad) hstk hq1)) (cwV 2 hts gL_buy_X5_buy rfl rfl rfl (by decide +kernel) ⟨Nat.le_of_ble_eq_true rfl, Nat.le_of_ble_eq_true rfl⟩) (by omega) ((mHw_0 (by omega)).trans (mB_b y ad _ _)) rfl rfl hl.1 rfl (Nat.le_of_ble_eq_true rfl) ⟨Nat.le_of_ble_eq_true rfl, Nat.le_of_ble_eq_true rfl⟩ dL_buy_5 (fun ce q9 H locs V hce hcv hcl => ?_)
        refine vx_catch (name := "java/lang/IllegalArgumentException") hown [⟨0, 10, 13, 21⟩] ⟨0, 10, 17, 13⟩ [⟨0, 10, 21, 15⟩] (by rw [htab]; rfl) ?_ (by decide) (by decide) (va_Nw.use rfl (Z.2.2 _ (List.mem_of_getElem? (i := 0) rfl))) (va_Nw.use (mZw_tab _ (List.mem_of_getElem? (i := 1) rfl)) (Z.1.2.1 _ (List.mem_of_getElem? (i := 1) rfl))) hce hcv hcl ?_
        · intro z9 hz9
          rcases List.mem_cons.mp hz9 with rfl | hz9
          · exact Or.inr ⟨by decide, _, va_Nw.use rfl (Z.2.2 _ (List.mem_of_getElem? (i := 2) rfl)), Z.2.1 _ (List.mem_of_getElem? (i := 0) rfl)⟩
          exact absurd hz9 List.not_mem_nil
        · refine lv_astore (lv' := [(4, .ref q9), (0, .ref (ad 160)), (1, .int a1), (2, .int a2), (3, .ref (ad 161))]) hx hb dL_buy_17 hl (by decide) rfl (fun ls hl => ?_)
          refine lv_iconst (v := 2) hx hb dL_buy_19 (by decide) ?_
          exact m_iretX hx hb hr hlk V (Nat.le_of_ble_eq_true rfl) (Nat.le_of_ble_eq_true rfl) rfl dL_buy_20
      · replace h := ite_f he1 h
        by_cases he2 : e1 = "java/lang/IllegalStateException"
        · replace h := ite_t he2 h
          obtain rfl := Option.some.inj h
          subst he2
          refine kHBx (As := [.int a1, .int a2]) (rest := [.int 0, .ref (ad 161)]) ⟨hx, hb, hml, hown, hts⟩ Z.1 V (mOi_throw ho1 (c_X5_buy (l := l) (D := D) (y := y) (ad := ad) hstk hq1)) (cwV 2 hts gL_buy_X5_buy rfl rfl rfl (by decide +kernel) ⟨Nat.le_of_ble_eq_true rfl, Nat.le_of_ble_eq_true rfl⟩) (by omega) ((mHw_0 (by omega)).trans (mB_b y ad _ _)) rfl rfl hl.1 rfl (Nat.le_of_ble_eq_true rfl) ⟨Nat.le_of_ble_eq_true rfl, Nat.le_of_ble_eq_true rfl⟩ dL_buy_5 (fun ce q9 H locs V hce hcv hcl => ?_)
          refine vx_catch (name := "java/lang/IllegalStateException") hown [⟨0, 10, 13, 21⟩, ⟨0, 10, 17, 13⟩] ⟨0, 10, 21, 15⟩ [] (by rw [htab]; rfl) ?_ (by decide) (by decide) (va_Nw.use rfl (Z.2.2 _ (List.mem_of_getElem? (i := 1) rfl))) (va_Nw.use (mZw_tab _ (List.mem_of_getElem? (i := 2) rfl)) (Z.1.2.1 _ (List.mem_of_getElem? (i := 2) rfl))) hce hcv hcl ?_
          · intro z9 hz9
            rcases List.mem_cons.mp hz9 with rfl | hz9
            · exact Or.inr ⟨by decide, _, va_Nw.use rfl (Z.2.2 _ (List.mem_of_getElem? (i := 2) rfl)), Z.2.1 _ (List.mem_of_getElem? (i := 1) rfl)⟩
            rcases List.mem_cons.mp hz9 with rfl | hz9
            · exact Or.inr ⟨by decide, _, va_Nw.use rfl (Z.2.2 _ (List.mem_of_getElem? (i := 0) rfl)), Z.2.1 _ (List.mem_of_getElem? (i := 2) rfl)⟩
            exact absurd hz9 List.not_mem_nil
          · refine lv_astore (lv' := [(4, .ref q9), (0, .ref (ad 160)), (1, .int a1), (2, .int a2), (3, .ref (ad 161))]) hx hb dL_buy_21 hl (by decide) rfl (fun ls hl => ?_)
            refine lv_iconst (v := 3) hx hb dL_buy_23 (by decide) ?_
            exact m_iretX hx hb hr hlk V (Nat.le_of_ble_eq_true rfl) (Nat.le_of_ble_eq_true rfl) rfl dL_buy_24
        · replace h := ite_f he2 h
          exact nomatch h
def f_L_sell (N : Nat) (σ τ : mSt) (o : Nat → Int64) (a1 : Int32) (a2 : Int32) : Option (Int32 × mSt × mSt × (Nat → Int64)) := (f_X5_sell N σ τ a1 a2).bind fun q1 => oCase q1.1 (fun r1 => some (0, q1.2.1, q1.2.2, vp_updL o (0 : Int32).toNatClampNeg r1.toInt64)) (fun e1 => if e1 = "java/lang/IndexOutOfBoundsException" then some (1, q1.2.1, q1.2.2, o) else if e1 = "java/lang/IllegalArgumentException" then some (2, q1.2.1, q1.2.2, o) else if e1 = "java/lang/IllegalStateException" then some (3, q1.2.1, q1.2.2, o) else  none)
set_option maxHeartbeats 4000000 in
set_option maxRecDepth 100000 in
theorem c_L_sell {l : Launch} {D : va_G} {y : Nat → ClassId} {ad : Nat → Nat} {N : Nat} {σ τ : mSt} {o : Nat → Int64} {a1 : Int32} {a2 : Int32} {q : Int32 × mSt × mSt × (Nat → Int64)} (hstk : l.stackTraces = false) (h : f_L_sell N σ τ o a1 a2 = some q) : mC l yL_sell wsL_sell { frames := 8, cells := 1, slots := 6, locals := 127 } D y 162 ad mZ2 (mHw y ad σ τ o) [.ref (ad 160), .int a1, .int a2, .ref (ad 161)] (some (.int q.1)) (mHw y ad q.2.1 q.2.2.1 q.2.2.2) 1 6 := by
  refine mCX_plain (m_startW (cc := cL_sell) (maxL := 5) (ret := (some .int)) (by decide) rfl (Nat.le_of_ble_eq_true rfl) (fun p e s m args below meth c ls hB htab V Z hl => ?_))
  obtain ⟨hx, hb, hml, hown, hts, hr, hlk⟩ := id hB
  have hl : lv_has ls 5 [(0, .ref (ad 160)), (1, .int a1), (2, .int a2), (3, .ref (ad 161))] := hl
  rw [f_L_sell] at h
  refine lv_aload_n hx hb dL_sell_0 rfl (lv_at hl 3 rfl) ?_
  refine lv_iconst (v := 0) hx hb dL_sell_1 (by decide) ?_
  refine lv_aload_n hx hb dL_sell_2 rfl (lv_at hl 0 rfl) ?_
  refine lv_iload_n hx hb dL_sell_3 rfl (lv_at hl 1 rfl) ?_
  refine lv_iload_n hx hb dL_sell_4 rfl (lv_at hl 2 rfl) ?_
  obtain ⟨q1, hq1, h⟩ := bd_s h
  cases ho1 : q1.1 with
  | inl r1 =>
    replace h := oCase_l ho1 h
    obtain rfl := Option.some.inj h
    refine kHB (As := [.int a1, .int a2]) (rest := [.int 0, .ref (ad 161)]) ⟨hx, hb, hml, hown, hts⟩ Z.1 V (mOi_plain ho1 (c_X5_sell (l := l) (D := D) (y := y) (ad := ad) hstk hq1)) (cwV 2 hts gL_sell_X5_sell rfl rfl rfl (by decide +kernel) ⟨Nat.le_of_ble_eq_true rfl, Nat.le_of_ble_eq_true rfl⟩) (by omega) ((mHw_0 (by omega)).trans (mB_b y ad _ _)) rfl rfl hl.1 rfl (Nat.le_of_ble_eq_true rfl) ⟨Nat.zero_le _, Nat.zero_le _⟩ rfl dL_sell_5 (fun H locs V => ?_)
    refine lv_i2l hx hb dL_sell_8 rfl ?_
    refine oH_st hx hb V (by decide +kernel) dL_sell_9 (fun H locs V => ?_)
    refine lv_goto (tgt := 25) hx hb dL_sell_10 (by decide) ?_
    refine lv_iconst (v := 0) hx hb dL_sell_25 (by decide) ?_
    exact m_iretX hx hb hr hlk V (Nat.zero_le _) (Nat.zero_le _) rfl dL_sell_26
  | inr e1 =>
    replace h := oCase_r ho1 h
    by_cases he0 : e1 = "java/lang/IndexOutOfBoundsException"
    · replace h := ite_t he0 h
      obtain rfl := Option.some.inj h
      subst he0
      refine kHBx (As := [.int a1, .int a2]) (rest := [.int 0, .ref (ad 161)]) ⟨hx, hb, hml, hown, hts⟩ Z.1 V (mOi_throw ho1 (c_X5_sell (l := l) (D := D) (y := y) (ad := ad) hstk hq1)) (cwV 2 hts gL_sell_X5_sell rfl rfl rfl (by decide +kernel) ⟨Nat.le_of_ble_eq_true rfl, Nat.le_of_ble_eq_true rfl⟩) (by omega) ((mHw_0 (by omega)).trans (mB_b y ad _ _)) rfl rfl hl.1 rfl (Nat.le_of_ble_eq_true rfl) ⟨Nat.le_of_ble_eq_true rfl, Nat.le_of_ble_eq_true rfl⟩ dL_sell_5 (fun ce q9 H locs V hce hcv hcl => ?_)
      refine vx_catch (name := "java/lang/IndexOutOfBoundsException") hown [] ⟨0, 10, 13, 21⟩ [⟨0, 10, 17, 13⟩, ⟨0, 10, 21, 15⟩] (by rw [htab]; rfl) ?_ (by decide) (by decide) (va_Nw.use rfl (Z.2.2 _ (List.mem_of_getElem? (i := 2) rfl))) (va_Nw.use (mZw_tab _ (List.mem_of_getElem? (i := 0) rfl)) (Z.1.2.1 _ (List.mem_of_getElem? (i := 0) rfl))) hce hcv hcl ?_
      · intro z9 hz9
        exact absurd hz9 List.not_mem_nil
      · refine lv_astore (lv' := [(4, .ref q9), (0, .ref (ad 160)), (1, .int a1), (2, .int a2), (3, .ref (ad 161))]) hx hb dL_sell_13 hl (by decide) rfl (fun ls hl => ?_)
        refine lv_iconst (v := 1) hx hb dL_sell_15 (by decide) ?_
        exact m_iretX hx hb hr hlk V (Nat.le_of_ble_eq_true rfl) (Nat.le_of_ble_eq_true rfl) rfl dL_sell_16
    · replace h := ite_f he0 h
      by_cases he1 : e1 = "java/lang/IllegalArgumentException"
      · replace h := ite_t he1 h
        obtain rfl := Option.some.inj h
        subst he1
        refine kHBx (As := [.int a1, .int a2]) (rest := [.int 0, .ref (ad 161)]) ⟨hx, hb, hml, hown, hts⟩ Z.1 V (mOi_throw ho1 (c_X5_sell (l := l) (D := D) (y := y) (ad := ad) hstk hq1)) (cwV 2 hts gL_sell_X5_sell rfl rfl rfl (by decide +kernel) ⟨Nat.le_of_ble_eq_true rfl, Nat.le_of_ble_eq_true rfl⟩) (by omega) ((mHw_0 (by omega)).trans (mB_b y ad _ _)) rfl rfl hl.1 rfl (Nat.le_of_ble_eq_true rfl) ⟨Nat.le_of_ble_eq_true rfl, Nat.le_of_ble_eq_true rfl⟩ dL_sell_5 (fun ce q9 H locs V hce hcv hcl => ?_)
        refine vx_catch (name := "java/lang/IllegalArgumentException") hown [⟨0, 10, 13, 21⟩] ⟨0, 10, 17, 13⟩ [⟨0, 10, 21, 15⟩] (by rw [htab]; rfl) ?_ (by decide) (by decide) (va_Nw.use rfl (Z.2.2 _ (List.mem_of_getElem? (i := 0) rfl))) (va_Nw.use (mZw_tab _ (List.mem_of_getElem? (i := 1) rfl)) (Z.1.2.1 _ (List.mem_of_getElem? (i := 1) rfl))) hce hcv hcl ?_
        · intro z9 hz9
          rcases List.mem_cons.mp hz9 with rfl | hz9
          · exact Or.inr ⟨by decide, _, va_Nw.use rfl (Z.2.2 _ (List.mem_of_getElem? (i := 2) rfl)), Z.2.1 _ (List.mem_of_getElem? (i := 0) rfl)⟩
          exact absurd hz9 List.not_mem_nil
        · refine lv_astore (lv' := [(4, .ref q9), (0, .ref (ad 160)), (1, .int a1), (2, .int a2), (3, .ref (ad 161))]) hx hb dL_sell_17 hl (by decide) rfl (fun ls hl => ?_)
          refine lv_iconst (v := 2) hx hb dL_sell_19 (by decide) ?_
          exact m_iretX hx hb hr hlk V (Nat.le_of_ble_eq_true rfl) (Nat.le_of_ble_eq_true rfl) rfl dL_sell_20
      · replace h := ite_f he1 h
        by_cases he2 : e1 = "java/lang/IllegalStateException"
        · replace h := ite_t he2 h
          obtain rfl := Option.some.inj h
          subst he2
          refine kHBx (As := [.int a1, .int a2]) (rest := [.int 0, .ref (ad 161)]) ⟨hx, hb, hml, hown, hts⟩ Z.1 V (mOi_throw ho1 (c_X5_sell (l := l) (D := D) (y := y) (ad := ad) hstk hq1)) (cwV 2 hts gL_sell_X5_sell rfl rfl rfl (by decide +kernel) ⟨Nat.le_of_ble_eq_true rfl, Nat.le_of_ble_eq_true rfl⟩) (by omega) ((mHw_0 (by omega)).trans (mB_b y ad _ _)) rfl rfl hl.1 rfl (Nat.le_of_ble_eq_true rfl) ⟨Nat.le_of_ble_eq_true rfl, Nat.le_of_ble_eq_true rfl⟩ dL_sell_5 (fun ce q9 H locs V hce hcv hcl => ?_)
          refine vx_catch (name := "java/lang/IllegalStateException") hown [⟨0, 10, 13, 21⟩, ⟨0, 10, 17, 13⟩] ⟨0, 10, 21, 15⟩ [] (by rw [htab]; rfl) ?_ (by decide) (by decide) (va_Nw.use rfl (Z.2.2 _ (List.mem_of_getElem? (i := 1) rfl))) (va_Nw.use (mZw_tab _ (List.mem_of_getElem? (i := 2) rfl)) (Z.1.2.1 _ (List.mem_of_getElem? (i := 2) rfl))) hce hcv hcl ?_
          · intro z9 hz9
            rcases List.mem_cons.mp hz9 with rfl | hz9
            · exact Or.inr ⟨by decide, _, va_Nw.use rfl (Z.2.2 _ (List.mem_of_getElem? (i := 2) rfl)), Z.2.1 _ (List.mem_of_getElem? (i := 1) rfl)⟩
            rcases List.mem_cons.mp hz9 with rfl | hz9
            · exact Or.inr ⟨by decide, _, va_Nw.use rfl (Z.2.2 _ (List.mem_of_getElem? (i := 0) rfl)), Z.2.1 _ (List.mem_of_getElem? (i := 2) rfl)⟩
            exact absurd hz9 List.not_mem_nil
          · refine lv_astore (lv' := [(4, .ref q9), (0, .ref (ad 160)), (1, .int a1), (2, .int a2), (3, .ref (ad 161))]) hx hb dL_sell_21 hl (by decide) rfl (fun ls hl => ?_)
            refine lv_iconst (v := 3) hx hb dL_sell_23 (by decide) ?_
            exact m_iretX hx hb hr hlk V (Nat.le_of_ble_eq_true rfl) (Nat.le_of_ble_eq_true rfl) rfl dL_sell_24
        · replace h := ite_f he2 h
          exact nomatch h
def f_L_borrow (N : Nat) (σ τ : mSt) (o : Nat → Int64) (a1 : Int32) (a2 : Int32) (a3 : Int32) (a4 : Int32) : Option (Int32 × mSt × mSt × (Nat → Int64)) := (f_X5_borrow N σ τ a1 a2 a3 a4).bind fun q1 => oCase q1.1 (fun r1 => some (0, q1.2.1, q1.2.2, vp_updL o (0 : Int32).toNatClampNeg r1.toInt64)) (fun e1 => if e1 = "java/lang/IndexOutOfBoundsException" then some (1, q1.2.1, q1.2.2, o) else if e1 = "java/lang/IllegalArgumentException" then some (2, q1.2.1, q1.2.2, o) else if e1 = "java/lang/IllegalStateException" then some (3, q1.2.1, q1.2.2, o) else  none)
set_option maxHeartbeats 4000000 in
set_option maxRecDepth 100000 in
theorem c_L_borrow {l : Launch} {D : va_G} {y : Nat → ClassId} {ad : Nat → Nat} {N : Nat} {σ τ : mSt} {o : Nat → Int64} {a1 : Int32} {a2 : Int32} {a3 : Int32} {a4 : Int32} {q : Int32 × mSt × mSt × (Nat → Int64)} (hstk : l.stackTraces = false) (h : f_L_borrow N σ τ o a1 a2 a3 a4 = some q) : mC l yL_borrow wsL_borrow { frames := 8, cells := 1, slots := 6, locals := 129 } D y 162 ad mZ2 (mHw y ad σ τ o) [.ref (ad 160), .int a1, .int a2, .int a3, .int a4, .ref (ad 161)] (some (.int q.1)) (mHw y ad q.2.1 q.2.2.1 q.2.2.2) 1 6 := by
  refine mCX_plain (m_startW (cc := cL_borrow) (maxL := 7) (ret := (some .int)) (by decide) rfl (Nat.le_of_ble_eq_true rfl) (fun p e s m args below meth c ls hB htab V Z hl => ?_))
  obtain ⟨hx, hb, hml, hown, hts, hr, hlk⟩ := id hB
  have hl : lv_has ls 7 [(0, .ref (ad 160)), (1, .int a1), (2, .int a2), (3, .int a3), (4, .int a4), (5, .ref (ad 161))] := hl
  rw [f_L_borrow] at h
  refine lv_aload hx hb dL_borrow_0 (lv_at hl 5 rfl) ?_
  refine lv_iconst (v := 0) hx hb dL_borrow_2 (by decide) ?_
  refine lv_aload_n hx hb dL_borrow_3 rfl (lv_at hl 0 rfl) ?_
  refine lv_iload_n hx hb dL_borrow_4 rfl (lv_at hl 1 rfl) ?_
  refine lv_iload_n hx hb dL_borrow_5 rfl (lv_at hl 2 rfl) ?_
  refine lv_iload_n hx hb dL_borrow_6 rfl (lv_at hl 3 rfl) ?_
  refine lv_iload hx hb dL_borrow_7 (lv_at hl 4 rfl) ?_
  obtain ⟨q1, hq1, h⟩ := bd_s h
  cases ho1 : q1.1 with
  | inl r1 =>
    replace h := oCase_l ho1 h
    obtain rfl := Option.some.inj h
    refine kHB (As := [.int a1, .int a2, .int a3, .int a4]) (rest := [.int 0, .ref (ad 161)]) ⟨hx, hb, hml, hown, hts⟩ Z.1 V (mOi_plain ho1 (c_X5_borrow (l := l) (D := D) (y := y) (ad := ad) hstk hq1)) (cwV 4 hts gL_borrow_X5_borrow rfl rfl rfl (by decide +kernel) ⟨Nat.le_of_ble_eq_true rfl, Nat.le_of_ble_eq_true rfl⟩) (by omega) ((mHw_0 (by omega)).trans (mB_b y ad _ _)) rfl rfl hl.1 rfl (Nat.le_of_ble_eq_true rfl) ⟨Nat.zero_le _, Nat.zero_le _⟩ rfl dL_borrow_9 (fun H locs V => ?_)
    refine lv_i2l hx hb dL_borrow_12 rfl ?_
    refine oH_st hx hb V (by decide +kernel) dL_borrow_13 (fun H locs V => ?_)
    refine lv_goto (tgt := 29) hx hb dL_borrow_14 (by decide) ?_
    refine lv_iconst (v := 0) hx hb dL_borrow_29 (by decide) ?_
    exact m_iretX hx hb hr hlk V (Nat.zero_le _) (Nat.zero_le _) rfl dL_borrow_30
  | inr e1 =>
    replace h := oCase_r ho1 h
    by_cases he0 : e1 = "java/lang/IndexOutOfBoundsException"
    · replace h := ite_t he0 h
      obtain rfl := Option.some.inj h
      subst he0
      refine kHBx (As := [.int a1, .int a2, .int a3, .int a4]) (rest := [.int 0, .ref (ad 161)]) ⟨hx, hb, hml, hown, hts⟩ Z.1 V (mOi_throw ho1 (c_X5_borrow (l := l) (D := D) (y := y) (ad := ad) hstk hq1)) (cwV 4 hts gL_borrow_X5_borrow rfl rfl rfl (by decide +kernel) ⟨Nat.le_of_ble_eq_true rfl, Nat.le_of_ble_eq_true rfl⟩) (by omega) ((mHw_0 (by omega)).trans (mB_b y ad _ _)) rfl rfl hl.1 rfl (Nat.le_of_ble_eq_true rfl) ⟨Nat.le_of_ble_eq_true rfl, Nat.le_of_ble_eq_true rfl⟩ dL_borrow_9 (fun ce q9 H locs V hce hcv hcl => ?_)
      refine vx_catch (name := "java/lang/IndexOutOfBoundsException") hown [] ⟨0, 14, 17, 21⟩ [⟨0, 14, 21, 13⟩, ⟨0, 14, 25, 15⟩] (by rw [htab]; rfl) ?_ (by decide) (by decide) (va_Nw.use rfl (Z.2.2 _ (List.mem_of_getElem? (i := 2) rfl))) (va_Nw.use (mZw_tab _ (List.mem_of_getElem? (i := 0) rfl)) (Z.1.2.1 _ (List.mem_of_getElem? (i := 0) rfl))) hce hcv hcl ?_
      · intro z9 hz9
        exact absurd hz9 List.not_mem_nil
      · refine lv_astore (lv' := [(6, .ref q9), (0, .ref (ad 160)), (1, .int a1), (2, .int a2), (3, .int a3), (4, .int a4), (5, .ref (ad 161))]) hx hb dL_borrow_17 hl (by decide) rfl (fun ls hl => ?_)
        refine lv_iconst (v := 1) hx hb dL_borrow_19 (by decide) ?_
        exact m_iretX hx hb hr hlk V (Nat.le_of_ble_eq_true rfl) (Nat.le_of_ble_eq_true rfl) rfl dL_borrow_20
    · replace h := ite_f he0 h
      by_cases he1 : e1 = "java/lang/IllegalArgumentException"
      · replace h := ite_t he1 h
        obtain rfl := Option.some.inj h
        subst he1
        refine kHBx (As := [.int a1, .int a2, .int a3, .int a4]) (rest := [.int 0, .ref (ad 161)]) ⟨hx, hb, hml, hown, hts⟩ Z.1 V (mOi_throw ho1 (c_X5_borrow (l := l) (D := D) (y := y) (ad := ad) hstk hq1)) (cwV 4 hts gL_borrow_X5_borrow rfl rfl rfl (by decide +kernel) ⟨Nat.le_of_ble_eq_true rfl, Nat.le_of_ble_eq_true rfl⟩) (by omega) ((mHw_0 (by omega)).trans (mB_b y ad _ _)) rfl rfl hl.1 rfl (Nat.le_of_ble_eq_true rfl) ⟨Nat.le_of_ble_eq_true rfl, Nat.le_of_ble_eq_true rfl⟩ dL_borrow_9 (fun ce q9 H locs V hce hcv hcl => ?_)
        refine vx_catch (name := "java/lang/IllegalArgumentException") hown [⟨0, 14, 17, 21⟩] ⟨0, 14, 21, 13⟩ [⟨0, 14, 25, 15⟩] (by rw [htab]; rfl) ?_ (by decide) (by decide) (va_Nw.use rfl (Z.2.2 _ (List.mem_of_getElem? (i := 0) rfl))) (va_Nw.use (mZw_tab _ (List.mem_of_getElem? (i := 1) rfl)) (Z.1.2.1 _ (List.mem_of_getElem? (i := 1) rfl))) hce hcv hcl ?_
        · intro z9 hz9
          rcases List.mem_cons.mp hz9 with rfl | hz9
          · exact Or.inr ⟨by decide, _, va_Nw.use rfl (Z.2.2 _ (List.mem_of_getElem? (i := 2) rfl)), Z.2.1 _ (List.mem_of_getElem? (i := 0) rfl)⟩
          exact absurd hz9 List.not_mem_nil
        · refine lv_astore (lv' := [(6, .ref q9), (0, .ref (ad 160)), (1, .int a1), (2, .int a2), (3, .int a3), (4, .int a4), (5, .ref (ad 161))]) hx hb dL_borrow_21 hl (by decide) rfl (fun ls hl => ?_)
          refine lv_iconst (v := 2) hx hb dL_borrow_23 (by decide) ?_
          exact m_iretX hx hb hr hlk V (Nat.le_of_ble_eq_true rfl) (Nat.le_of_ble_eq_true rfl) rfl dL_borrow_24
      · replace h := ite_f he1 h
        by_cases he2 : e1 = "java/lang/IllegalStateException"
        · replace h := ite_t he2 h
          obtain rfl := Option.some.inj h
          subst he2
          refine kHBx (As := [.int a1, .int a2, .int a3, .int a4]) (rest := [.int 0, .ref (ad 161)]) ⟨hx, hb, hml, hown, hts⟩ Z.1 V (mOi_throw ho1 (c_X5_borrow (l := l) (D := D) (y := y) (ad := ad) hstk hq1)) (cwV 4 hts gL_borrow_X5_borrow rfl rfl rfl (by decide +kernel) ⟨Nat.le_of_ble_eq_true rfl, Nat.le_of_ble_eq_true rfl⟩) (by omega) ((mHw_0 (by omega)).trans (mB_b y ad _ _)) rfl rfl hl.1 rfl (Nat.le_of_ble_eq_true rfl) ⟨Nat.le_of_ble_eq_true rfl, Nat.le_of_ble_eq_true rfl⟩ dL_borrow_9 (fun ce q9 H locs V hce hcv hcl => ?_)
          refine vx_catch (name := "java/lang/IllegalStateException") hown [⟨0, 14, 17, 21⟩, ⟨0, 14, 21, 13⟩] ⟨0, 14, 25, 15⟩ [] (by rw [htab]; rfl) ?_ (by decide) (by decide) (va_Nw.use rfl (Z.2.2 _ (List.mem_of_getElem? (i := 1) rfl))) (va_Nw.use (mZw_tab _ (List.mem_of_getElem? (i := 2) rfl)) (Z.1.2.1 _ (List.mem_of_getElem? (i := 2) rfl))) hce hcv hcl ?_
          · intro z9 hz9
            rcases List.mem_cons.mp hz9 with rfl | hz9
            · exact Or.inr ⟨by decide, _, va_Nw.use rfl (Z.2.2 _ (List.mem_of_getElem? (i := 2) rfl)), Z.2.1 _ (List.mem_of_getElem? (i := 1) rfl)⟩
            rcases List.mem_cons.mp hz9 with rfl | hz9
            · exact Or.inr ⟨by decide, _, va_Nw.use rfl (Z.2.2 _ (List.mem_of_getElem? (i := 0) rfl)), Z.2.1 _ (List.mem_of_getElem? (i := 2) rfl)⟩
            exact absurd hz9 List.not_mem_nil
          · refine lv_astore (lv' := [(6, .ref q9), (0, .ref (ad 160)), (1, .int a1), (2, .int a2), (3, .int a3), (4, .int a4), (5, .ref (ad 161))]) hx hb dL_borrow_25 hl (by decide) rfl (fun ls hl => ?_)
            refine lv_iconst (v := 3) hx hb dL_borrow_27 (by decide) ?_
            exact m_iretX hx hb hr hlk V (Nat.le_of_ble_eq_true rfl) (Nat.le_of_ble_eq_true rfl) rfl dL_borrow_28
        · replace h := ite_f he2 h
          exact nomatch h
def f_L_repay (N : Nat) (σ τ : mSt) (o : Nat → Int64) (a1 : Int32) (a2 : Int32) : Option (Int32 × mSt × mSt × (Nat → Int64)) := (f_X5_repay N σ τ a1 a2).bind fun q1 => oCase q1.1 (fun r1 => some (0, q1.2.1, q1.2.2, vp_updL o (0 : Int32).toNatClampNeg r1.toInt64)) (fun e1 => if e1 = "java/lang/IndexOutOfBoundsException" then some (1, q1.2.1, q1.2.2, o) else if e1 = "java/lang/IllegalArgumentException" then some (2, q1.2.1, q1.2.2, o) else if e1 = "java/lang/IllegalStateException" then some (3, q1.2.1, q1.2.2, o) else  none)
set_option maxHeartbeats 4000000 in
set_option maxRecDepth 100000 in
theorem c_L_repay {l : Launch} {D : va_G} {y : Nat → ClassId} {ad : Nat → Nat} {N : Nat} {σ τ : mSt} {o : Nat → Int64} {a1 : Int32} {a2 : Int32} {q : Int32 × mSt × mSt × (Nat → Int64)} (hstk : l.stackTraces = false) (h : f_L_repay N σ τ o a1 a2 = some q) : mC l yL_repay wsL_repay { frames := 9, cells := 1, slots := 6, locals := 151 } D y 162 ad mZ2 (mHw y ad σ τ o) [.ref (ad 160), .int a1, .int a2, .ref (ad 161)] (some (.int q.1)) (mHw y ad q.2.1 q.2.2.1 q.2.2.2) 1 6 := by
  refine mCX_plain (m_startW (cc := cL_repay) (maxL := 5) (ret := (some .int)) (by decide) rfl (Nat.le_of_ble_eq_true rfl) (fun p e s m args below meth c ls hB htab V Z hl => ?_))
  obtain ⟨hx, hb, hml, hown, hts, hr, hlk⟩ := id hB
  have hl : lv_has ls 5 [(0, .ref (ad 160)), (1, .int a1), (2, .int a2), (3, .ref (ad 161))] := hl
  rw [f_L_repay] at h
  refine lv_aload_n hx hb dL_repay_0 rfl (lv_at hl 3 rfl) ?_
  refine lv_iconst (v := 0) hx hb dL_repay_1 (by decide) ?_
  refine lv_aload_n hx hb dL_repay_2 rfl (lv_at hl 0 rfl) ?_
  refine lv_iload_n hx hb dL_repay_3 rfl (lv_at hl 1 rfl) ?_
  refine lv_iload_n hx hb dL_repay_4 rfl (lv_at hl 2 rfl) ?_
  obtain ⟨q1, hq1, h⟩ := bd_s h
  cases ho1 : q1.1 with
  | inl r1 =>
    replace h := oCase_l ho1 h
    obtain rfl := Option.some.inj h
    refine kHB (As := [.int a1, .int a2]) (rest := [.int 0, .ref (ad 161)]) ⟨hx, hb, hml, hown, hts⟩ Z.1 V (mOi_plain ho1 (c_X5_repay (l := l) (D := D) (y := y) (ad := ad) hstk hq1)) (cwV 2 hts gL_repay_X5_repay rfl rfl rfl (by decide +kernel) ⟨Nat.le_of_ble_eq_true rfl, Nat.le_of_ble_eq_true rfl⟩) (by omega) ((mHw_0 (by omega)).trans (mB_b y ad _ _)) rfl rfl hl.1 rfl (Nat.le_of_ble_eq_true rfl) ⟨Nat.zero_le _, Nat.zero_le _⟩ rfl dL_repay_5 (fun H locs V => ?_)
    refine lv_i2l hx hb dL_repay_8 rfl ?_
    refine oH_st hx hb V (by decide +kernel) dL_repay_9 (fun H locs V => ?_)
    refine lv_goto (tgt := 25) hx hb dL_repay_10 (by decide) ?_
    refine lv_iconst (v := 0) hx hb dL_repay_25 (by decide) ?_
    exact m_iretX hx hb hr hlk V (Nat.zero_le _) (Nat.zero_le _) rfl dL_repay_26
  | inr e1 =>
    replace h := oCase_r ho1 h
    by_cases he0 : e1 = "java/lang/IndexOutOfBoundsException"
    · replace h := ite_t he0 h
      obtain rfl := Option.some.inj h
      subst he0
      refine kHBx (As := [.int a1, .int a2]) (rest := [.int 0, .ref (ad 161)]) ⟨hx, hb, hml, hown, hts⟩ Z.1 V (mOi_throw ho1 (c_X5_repay (l := l) (D := D) (y := y) (ad := ad) hstk hq1)) (cwV 2 hts gL_repay_X5_repay rfl rfl rfl (by decide +kernel) ⟨Nat.le_of_ble_eq_true rfl, Nat.le_of_ble_eq_true rfl⟩) (by omega) ((mHw_0 (by omega)).trans (mB_b y ad _ _)) rfl rfl hl.1 rfl (Nat.le_of_ble_eq_true rfl) ⟨Nat.le_of_ble_eq_true rfl, Nat.le_of_ble_eq_true rfl⟩ dL_repay_5 (fun ce q9 H locs V hce hcv hcl => ?_)
      refine vx_catch (name := "java/lang/IndexOutOfBoundsException") hown [] ⟨0, 10, 13, 21⟩ [⟨0, 10, 17, 13⟩, ⟨0, 10, 21, 15⟩] (by rw [htab]; rfl) ?_ (by decide) (by decide) (va_Nw.use rfl (Z.2.2 _ (List.mem_of_getElem? (i := 2) rfl))) (va_Nw.use (mZw_tab _ (List.mem_of_getElem? (i := 0) rfl)) (Z.1.2.1 _ (List.mem_of_getElem? (i := 0) rfl))) hce hcv hcl ?_
      · intro z9 hz9
        exact absurd hz9 List.not_mem_nil
      · refine lv_astore (lv' := [(4, .ref q9), (0, .ref (ad 160)), (1, .int a1), (2, .int a2), (3, .ref (ad 161))]) hx hb dL_repay_13 hl (by decide) rfl (fun ls hl => ?_)
        refine lv_iconst (v := 1) hx hb dL_repay_15 (by decide) ?_
        exact m_iretX hx hb hr hlk V (Nat.le_of_ble_eq_true rfl) (Nat.le_of_ble_eq_true rfl) rfl dL_repay_16
    · replace h := ite_f he0 h
      by_cases he1 : e1 = "java/lang/IllegalArgumentException"
      · replace h := ite_t he1 h
        obtain rfl := Option.some.inj h
        subst he1
        refine kHBx (As := [.int a1, .int a2]) (rest := [.int 0, .ref (ad 161)]) ⟨hx, hb, hml, hown, hts⟩ Z.1 V (mOi_throw ho1 (c_X5_repay (l := l) (D := D) (y := y) (ad := ad) hstk hq1)) (cwV 2 hts gL_repay_X5_repay rfl rfl rfl (by decide +kernel) ⟨Nat.le_of_ble_eq_true rfl, Nat.le_of_ble_eq_true rfl⟩) (by omega) ((mHw_0 (by omega)).trans (mB_b y ad _ _)) rfl rfl hl.1 rfl (Nat.le_of_ble_eq_true rfl) ⟨Nat.le_of_ble_eq_true rfl, Nat.le_of_ble_eq_true rfl⟩ dL_repay_5 (fun ce q9 H locs V hce hcv hcl => ?_)
        refine vx_catch (name := "java/lang/IllegalArgumentException") hown [⟨0, 10, 13, 21⟩] ⟨0, 10, 17, 13⟩ [⟨0, 10, 21, 15⟩] (by rw [htab]; rfl) ?_ (by decide) (by decide) (va_Nw.use rfl (Z.2.2 _ (List.mem_of_getElem? (i := 0) rfl))) (va_Nw.use (mZw_tab _ (List.mem_of_getElem? (i := 1) rfl)) (Z.1.2.1 _ (List.mem_of_getElem? (i := 1) rfl))) hce hcv hcl ?_
        · intro z9 hz9
          rcases List.mem_cons.mp hz9 with rfl | hz9
          · exact Or.inr ⟨by decide, _, va_Nw.use rfl (Z.2.2 _ (List.mem_of_getElem? (i := 2) rfl)), Z.2.1 _ (List.mem_of_getElem? (i := 0) rfl)⟩
          exact absurd hz9 List.not_mem_nil
        · refine lv_astore (lv' := [(4, .ref q9), (0, .ref (ad 160)), (1, .int a1), (2, .int a2), (3, .ref (ad 161))]) hx hb dL_repay_17 hl (by decide) rfl (fun ls hl => ?_)
          refine lv_iconst (v := 2) hx hb dL_repay_19 (by decide) ?_
          exact m_iretX hx hb hr hlk V (Nat.le_of_ble_eq_true rfl) (Nat.le_of_ble_eq_true rfl) rfl dL_repay_20
      · replace h := ite_f he1 h
        by_cases he2 : e1 = "java/lang/IllegalStateException"
        · replace h := ite_t he2 h
          obtain rfl := Option.some.inj h
          subst he2
          refine kHBx (As := [.int a1, .int a2]) (rest := [.int 0, .ref (ad 161)]) ⟨hx, hb, hml, hown, hts⟩ Z.1 V (mOi_throw ho1 (c_X5_repay (l := l) (D := D) (y := y) (ad := ad) hstk hq1)) (cwV 2 hts gL_repay_X5_repay rfl rfl rfl (by decide +kernel) ⟨Nat.le_of_ble_eq_true rfl, Nat.le_of_ble_eq_true rfl⟩) (by omega) ((mHw_0 (by omega)).trans (mB_b y ad _ _)) rfl rfl hl.1 rfl (Nat.le_of_ble_eq_true rfl) ⟨Nat.le_of_ble_eq_true rfl, Nat.le_of_ble_eq_true rfl⟩ dL_repay_5 (fun ce q9 H locs V hce hcv hcl => ?_)
          refine vx_catch (name := "java/lang/IllegalStateException") hown [⟨0, 10, 13, 21⟩, ⟨0, 10, 17, 13⟩] ⟨0, 10, 21, 15⟩ [] (by rw [htab]; rfl) ?_ (by decide) (by decide) (va_Nw.use rfl (Z.2.2 _ (List.mem_of_getElem? (i := 1) rfl))) (va_Nw.use (mZw_tab _ (List.mem_of_getElem? (i := 2) rfl)) (Z.1.2.1 _ (List.mem_of_getElem? (i := 2) rfl))) hce hcv hcl ?_
          · intro z9 hz9
            rcases List.mem_cons.mp hz9 with rfl | hz9
            · exact Or.inr ⟨by decide, _, va_Nw.use rfl (Z.2.2 _ (List.mem_of_getElem? (i := 2) rfl)), Z.2.1 _ (List.mem_of_getElem? (i := 1) rfl)⟩
            rcases List.mem_cons.mp hz9 with rfl | hz9
            · exact Or.inr ⟨by decide, _, va_Nw.use rfl (Z.2.2 _ (List.mem_of_getElem? (i := 0) rfl)), Z.2.1 _ (List.mem_of_getElem? (i := 2) rfl)⟩
            exact absurd hz9 List.not_mem_nil
          · refine lv_astore (lv' := [(4, .ref q9), (0, .ref (ad 160)), (1, .int a1), (2, .int a2), (3, .ref (ad 161))]) hx hb dL_repay_21 hl (by decide) rfl (fun ls hl => ?_)
            refine lv_iconst (v := 3) hx hb dL_repay_23 (by decide) ?_
            exact m_iretX hx hb hr hlk V (Nat.le_of_ble_eq_true rfl) (Nat.le_of_ble_eq_true rfl) rfl dL_repay_24
        · replace h := ite_f he2 h
          exact nomatch h
def f_L_loan (N : Nat) (σ τ : mSt) (o : Nat → Int64) (a1 : Int32) (a2 : Int32) : Option (Int32 × mSt × mSt × (Nat → Int64)) := (f_X5_loan N σ τ a1 a2).bind fun q1 => oCase q1.1 (fun r1 => some (0, q1.2.1, q1.2.2, vp_updL o (0 : Int32).toNatClampNeg r1.toInt64)) (fun e1 => if e1 = "java/lang/IndexOutOfBoundsException" then some (1, q1.2.1, q1.2.2, o) else  none)
set_option maxHeartbeats 4000000 in
set_option maxRecDepth 100000 in
theorem c_L_loan {l : Launch} {D : va_G} {y : Nat → ClassId} {ad : Nat → Nat} {N : Nat} {σ τ : mSt} {o : Nat → Int64} {a1 : Int32} {a2 : Int32} {q : Int32 × mSt × mSt × (Nat → Int64)} (hstk : l.stackTraces = false) (h : f_L_loan N σ τ o a1 a2 = some q) : mC l yL_loan wsL_loan { frames := 8, cells := 1, slots := 6, locals := 126 } D y 162 ad mZ2 (mHw y ad σ τ o) [.ref (ad 160), .int a1, .int a2, .ref (ad 161)] (some (.int q.1)) (mHw y ad q.2.1 q.2.2.1 q.2.2.2) 1 6 := by
  refine mCX_plain (m_startW (cc := cL_loan) (maxL := 5) (ret := (some .int)) (by decide) rfl (Nat.le_of_ble_eq_true rfl) (fun p e s m args below meth c ls hB htab V Z hl => ?_))
  obtain ⟨hx, hb, hml, hown, hts, hr, hlk⟩ := id hB
  have hl : lv_has ls 5 [(0, .ref (ad 160)), (1, .int a1), (2, .int a2), (3, .ref (ad 161))] := hl
  rw [f_L_loan] at h
  refine lv_aload_n hx hb dL_loan_0 rfl (lv_at hl 3 rfl) ?_
  refine lv_iconst (v := 0) hx hb dL_loan_1 (by decide) ?_
  refine lv_aload_n hx hb dL_loan_2 rfl (lv_at hl 0 rfl) ?_
  refine lv_iload_n hx hb dL_loan_3 rfl (lv_at hl 1 rfl) ?_
  refine lv_iload_n hx hb dL_loan_4 rfl (lv_at hl 2 rfl) ?_
  obtain ⟨q1, hq1, h⟩ := bd_s h
  cases ho1 : q1.1 with
  | inl r1 =>
    replace h := oCase_l ho1 h
    obtain rfl := Option.some.inj h
    refine kHB (As := [.int a1, .int a2]) (rest := [.int 0, .ref (ad 161)]) ⟨hx, hb, hml, hown, hts⟩ Z.1 V (mOi_plain ho1 (c_X5_loan (l := l) (D := D) (y := y) (ad := ad) hstk hq1)) (cwV 2 hts gL_loan_X5_loan rfl rfl rfl (by decide +kernel) ⟨Nat.le_of_ble_eq_true rfl, Nat.le_of_ble_eq_true rfl⟩) (by omega) ((mHw_0 (by omega)).trans (mB_b y ad _ _)) rfl rfl hl.1 rfl (Nat.le_of_ble_eq_true rfl) ⟨Nat.zero_le _, Nat.zero_le _⟩ rfl dL_loan_5 (fun H locs V => ?_)
    refine lv_i2l hx hb dL_loan_8 rfl ?_
    refine oH_st hx hb V (by decide +kernel) dL_loan_9 (fun H locs V => ?_)
    refine lv_goto (tgt := 17) hx hb dL_loan_10 (by decide) ?_
    refine lv_iconst (v := 0) hx hb dL_loan_17 (by decide) ?_
    exact m_iretX hx hb hr hlk V (Nat.zero_le _) (Nat.zero_le _) rfl dL_loan_18
  | inr e1 =>
    replace h := oCase_r ho1 h
    by_cases he0 : e1 = "java/lang/IndexOutOfBoundsException"
    · replace h := ite_t he0 h
      obtain rfl := Option.some.inj h
      subst he0
      refine kHBx (As := [.int a1, .int a2]) (rest := [.int 0, .ref (ad 161)]) ⟨hx, hb, hml, hown, hts⟩ Z.1 V (mOi_throw ho1 (c_X5_loan (l := l) (D := D) (y := y) (ad := ad) hstk hq1)) (cwV 2 hts gL_loan_X5_loan rfl rfl rfl (by decide +kernel) ⟨Nat.le_of_ble_eq_true rfl, Nat.le_of_ble_eq_true rfl⟩) (by omega) ((mHw_0 (by omega)).trans (mB_b y ad _ _)) rfl rfl hl.1 rfl (Nat.le_of_ble_eq_true rfl) ⟨Nat.le_of_ble_eq_true rfl, Nat.le_of_ble_eq_true rfl⟩ dL_loan_5 (fun ce q9 H locs V hce hcv hcl => ?_)
      refine vx_catch (name := "java/lang/IndexOutOfBoundsException") hown [] ⟨0, 10, 13, 21⟩ [] (by rw [htab]; rfl) ?_ (by decide) (by decide) (va_Nw.use rfl (Z.2.2 _ (List.mem_of_getElem? (i := 2) rfl))) (va_Nw.use (mZw_tab _ (List.mem_of_getElem? (i := 0) rfl)) (Z.1.2.1 _ (List.mem_of_getElem? (i := 0) rfl))) hce hcv hcl ?_
      · intro z9 hz9
        exact absurd hz9 List.not_mem_nil
      · refine lv_astore (lv' := [(4, .ref q9), (0, .ref (ad 160)), (1, .int a1), (2, .int a2), (3, .ref (ad 161))]) hx hb dL_loan_13 hl (by decide) rfl (fun ls hl => ?_)
        refine lv_iconst (v := 1) hx hb dL_loan_15 (by decide) ?_
        exact m_iretX hx hb hr hlk V (Nat.le_of_ble_eq_true rfl) (Nat.le_of_ble_eq_true rfl) rfl dL_loan_16
    · replace h := ite_f he0 h
      exact nomatch h
def f_L_begin (N : Nat) (σ τ : mSt) (o : Nat → Int64) (a1 : Int32) (a2 : Int32) (a3 : Int32) (a4 : Int32) (a5 : Int32) (a6 : Int32) : Option (Int32 × mSt × mSt × (Nat → Int64)) := (f_X5_begin N σ τ a1 a2 a3 a4 a5 a6).bind fun q1 => oCase q1.1 (fun r1 => some (0, q1.2.1, q1.2.2, vp_updL o (0 : Int32).toNatClampNeg r1.toInt64)) (fun e1 => if e1 = "java/lang/IndexOutOfBoundsException" then some (1, q1.2.1, q1.2.2, o) else if e1 = "java/lang/IllegalArgumentException" then some (2, q1.2.1, q1.2.2, o) else if e1 = "java/lang/IllegalStateException" then some (3, q1.2.1, q1.2.2, o) else  none)
set_option maxHeartbeats 4000000 in
set_option maxRecDepth 100000 in
theorem c_L_begin {l : Launch} {D : va_G} {y : Nat → ClassId} {ad : Nat → Nat} {N : Nat} {σ τ : mSt} {o : Nat → Int64} {a1 : Int32} {a2 : Int32} {a3 : Int32} {a4 : Int32} {a5 : Int32} {a6 : Int32} {q : Int32 × mSt × mSt × (Nat → Int64)} (hstk : l.stackTraces = false) (h : f_L_begin N σ τ o a1 a2 a3 a4 a5 a6 = some q) : mC l yL_begin wsL_begin { frames := 8, cells := 1, slots := 6, locals := 133 } D y 162 ad mZ2 (mHw y ad σ τ o) [.ref (ad 160), .int a1, .int a2, .int a3, .int a4, .int a5, .int a6, .ref (ad 161)] (some (.int q.1)) (mHw y ad q.2.1 q.2.2.1 q.2.2.2) 1 6 := by
  refine mCX_plain (m_startW (cc := cL_begin) (maxL := 9) (ret := (some .int)) (by decide) rfl (Nat.le_of_ble_eq_true rfl) (fun p e s m args below meth c ls hB htab V Z hl => ?_))
  obtain ⟨hx, hb, hml, hown, hts, hr, hlk⟩ := id hB
  have hl : lv_has ls 9 [(0, .ref (ad 160)), (1, .int a1), (2, .int a2), (3, .int a3), (4, .int a4), (5, .int a5), (6, .int a6), (7, .ref (ad 161))] := hl
  rw [f_L_begin] at h
  refine lv_aload hx hb dL_begin_0 (lv_at hl 7 rfl) ?_
  refine lv_iconst (v := 0) hx hb dL_begin_2 (by decide) ?_
  refine lv_aload_n hx hb dL_begin_3 rfl (lv_at hl 0 rfl) ?_
  refine lv_iload_n hx hb dL_begin_4 rfl (lv_at hl 1 rfl) ?_
  refine lv_iload_n hx hb dL_begin_5 rfl (lv_at hl 2 rfl) ?_
  refine lv_iload_n hx hb dL_begin_6 rfl (lv_at hl 3 rfl) ?_
  refine lv_iload hx hb dL_begin_7 (lv_at hl 4 rfl) ?_
  refine lv_iload hx hb dL_begin_9 (lv_at hl 5 rfl) ?_
  refine lv_iload hx hb dL_begin_11 (lv_at hl 6 rfl) ?_
  obtain ⟨q1, hq1, h⟩ := bd_s h
  cases ho1 : q1.1 with
  | inl r1 =>
    replace h := oCase_l ho1 h
    obtain rfl := Option.some.inj h
    refine kHB (As := [.int a1, .int a2, .int a3, .int a4, .int a5, .int a6]) (rest := [.int 0, .ref (ad 161)]) ⟨hx, hb, hml, hown, hts⟩ Z.1 V (mOi_plain ho1 (c_X5_begin (l := l) (D := D) (y := y) (ad := ad) hstk hq1)) (cwV 6 hts gL_begin_X5_begin rfl rfl rfl (by decide +kernel) ⟨Nat.le_of_ble_eq_true rfl, Nat.le_of_ble_eq_true rfl⟩) (by omega) ((mHw_0 (by omega)).trans (mB_b y ad _ _)) rfl rfl hl.1 rfl (Nat.le_of_ble_eq_true rfl) ⟨Nat.zero_le _, Nat.zero_le _⟩ rfl dL_begin_13 (fun H locs V => ?_)
    refine lv_i2l hx hb dL_begin_16 rfl ?_
    refine oH_st hx hb V (by decide +kernel) dL_begin_17 (fun H locs V => ?_)
    refine lv_goto (tgt := 33) hx hb dL_begin_18 (by decide) ?_
    refine lv_iconst (v := 0) hx hb dL_begin_33 (by decide) ?_
    exact m_iretX hx hb hr hlk V (Nat.zero_le _) (Nat.zero_le _) rfl dL_begin_34
  | inr e1 =>
    replace h := oCase_r ho1 h
    by_cases he0 : e1 = "java/lang/IndexOutOfBoundsException"
    · replace h := ite_t he0 h
      obtain rfl := Option.some.inj h
      subst he0
      refine kHBx (As := [.int a1, .int a2, .int a3, .int a4, .int a5, .int a6]) (rest := [.int 0, .ref (ad 161)]) ⟨hx, hb, hml, hown, hts⟩ Z.1 V (mOi_throw ho1 (c_X5_begin (l := l) (D := D) (y := y) (ad := ad) hstk hq1)) (cwV 6 hts gL_begin_X5_begin rfl rfl rfl (by decide +kernel) ⟨Nat.le_of_ble_eq_true rfl, Nat.le_of_ble_eq_true rfl⟩) (by omega) ((mHw_0 (by omega)).trans (mB_b y ad _ _)) rfl rfl hl.1 rfl (Nat.le_of_ble_eq_true rfl) ⟨Nat.le_of_ble_eq_true rfl, Nat.le_of_ble_eq_true rfl⟩ dL_begin_13 (fun ce q9 H locs V hce hcv hcl => ?_)
      refine vx_catch (name := "java/lang/IndexOutOfBoundsException") hown [] ⟨0, 18, 21, 21⟩ [⟨0, 18, 25, 13⟩, ⟨0, 18, 29, 15⟩] (by rw [htab]; rfl) ?_ (by decide) (by decide) (va_Nw.use rfl (Z.2.2 _ (List.mem_of_getElem? (i := 2) rfl))) (va_Nw.use (mZw_tab _ (List.mem_of_getElem? (i := 0) rfl)) (Z.1.2.1 _ (List.mem_of_getElem? (i := 0) rfl))) hce hcv hcl ?_
      · intro z9 hz9
        exact absurd hz9 List.not_mem_nil
      · refine lv_astore (lv' := [(8, .ref q9), (0, .ref (ad 160)), (1, .int a1), (2, .int a2), (3, .int a3), (4, .int a4), (5, .int a5), (6, .int a6), (7, .ref (ad 161))]) hx hb dL_begin_21 hl (by decide) rfl (fun ls hl => ?_)
        refine lv_iconst (v := 1) hx hb dL_begin_23 (by decide) ?_
        exact m_iretX hx hb hr hlk V (Nat.le_of_ble_eq_true rfl) (Nat.le_of_ble_eq_true rfl) rfl dL_begin_24
    · replace h := ite_f he0 h
      by_cases he1 : e1 = "java/lang/IllegalArgumentException"
      · replace h := ite_t he1 h
        obtain rfl := Option.some.inj h
        subst he1
        refine kHBx (As := [.int a1, .int a2, .int a3, .int a4, .int a5, .int a6]) (rest := [.int 0, .ref (ad 161)]) ⟨hx, hb, hml, hown, hts⟩ Z.1 V (mOi_throw ho1 (c_X5_begin (l := l) (D := D) (y := y) (ad := ad) hstk hq1)) (cwV 6 hts gL_begin_X5_begin rfl rfl rfl (by decide +kernel) ⟨Nat.le_of_ble_eq_true rfl, Nat.le_of_ble_eq_true rfl⟩) (by omega) ((mHw_0 (by omega)).trans (mB_b y ad _ _)) rfl rfl hl.1 rfl (Nat.le_of_ble_eq_true rfl) ⟨Nat.le_of_ble_eq_true rfl, Nat.le_of_ble_eq_true rfl⟩ dL_begin_13 (fun ce q9 H locs V hce hcv hcl => ?_)
        refine vx_catch (name := "java/lang/IllegalArgumentException") hown [⟨0, 18, 21, 21⟩] ⟨0, 18, 25, 13⟩ [⟨0, 18, 29, 15⟩] (by rw [htab]; rfl) ?_ (by decide) (by decide) (va_Nw.use rfl (Z.2.2 _ (List.mem_of_getElem? (i := 0) rfl))) (va_Nw.use (mZw_tab _ (List.mem_of_getElem? (i := 1) rfl)) (Z.1.2.1 _ (List.mem_of_getElem? (i := 1) rfl))) hce hcv hcl ?_
        · intro z9 hz9
          rcases List.mem_cons.mp hz9 with rfl | hz9
          · exact Or.inr ⟨by decide, _, va_Nw.use rfl (Z.2.2 _ (List.mem_of_getElem? (i := 2) rfl)), Z.2.1 _ (List.mem_of_getElem? (i := 0) rfl)⟩
          exact absurd hz9 List.not_mem_nil
        · refine lv_astore (lv' := [(8, .ref q9), (0, .ref (ad 160)), (1, .int a1), (2, .int a2), (3, .int a3), (4, .int a4), (5, .int a5), (6, .int a6), (7, .ref (ad 161))]) hx hb dL_begin_25 hl (by decide) rfl (fun ls hl => ?_)
          refine lv_iconst (v := 2) hx hb dL_begin_27 (by decide) ?_
          exact m_iretX hx hb hr hlk V (Nat.le_of_ble_eq_true rfl) (Nat.le_of_ble_eq_true rfl) rfl dL_begin_28
      · replace h := ite_f he1 h
        by_cases he2 : e1 = "java/lang/IllegalStateException"
        · replace h := ite_t he2 h
          obtain rfl := Option.some.inj h
          subst he2
          refine kHBx (As := [.int a1, .int a2, .int a3, .int a4, .int a5, .int a6]) (rest := [.int 0, .ref (ad 161)]) ⟨hx, hb, hml, hown, hts⟩ Z.1 V (mOi_throw ho1 (c_X5_begin (l := l) (D := D) (y := y) (ad := ad) hstk hq1)) (cwV 6 hts gL_begin_X5_begin rfl rfl rfl (by decide +kernel) ⟨Nat.le_of_ble_eq_true rfl, Nat.le_of_ble_eq_true rfl⟩) (by omega) ((mHw_0 (by omega)).trans (mB_b y ad _ _)) rfl rfl hl.1 rfl (Nat.le_of_ble_eq_true rfl) ⟨Nat.le_of_ble_eq_true rfl, Nat.le_of_ble_eq_true rfl⟩ dL_begin_13 (fun ce q9 H locs V hce hcv hcl => ?_)
          refine vx_catch (name := "java/lang/IllegalStateException") hown [⟨0, 18, 21, 21⟩, ⟨0, 18, 25, 13⟩] ⟨0, 18, 29, 15⟩ [] (by rw [htab]; rfl) ?_ (by decide) (by decide) (va_Nw.use rfl (Z.2.2 _ (List.mem_of_getElem? (i := 1) rfl))) (va_Nw.use (mZw_tab _ (List.mem_of_getElem? (i := 2) rfl)) (Z.1.2.1 _ (List.mem_of_getElem? (i := 2) rfl))) hce hcv hcl ?_
          · intro z9 hz9
            rcases List.mem_cons.mp hz9 with rfl | hz9
            · exact Or.inr ⟨by decide, _, va_Nw.use rfl (Z.2.2 _ (List.mem_of_getElem? (i := 2) rfl)), Z.2.1 _ (List.mem_of_getElem? (i := 1) rfl)⟩
            rcases List.mem_cons.mp hz9 with rfl | hz9
            · exact Or.inr ⟨by decide, _, va_Nw.use rfl (Z.2.2 _ (List.mem_of_getElem? (i := 0) rfl)), Z.2.1 _ (List.mem_of_getElem? (i := 2) rfl)⟩
            exact absurd hz9 List.not_mem_nil
          · refine lv_astore (lv' := [(8, .ref q9), (0, .ref (ad 160)), (1, .int a1), (2, .int a2), (3, .int a3), (4, .int a4), (5, .int a5), (6, .int a6), (7, .ref (ad 161))]) hx hb dL_begin_29 hl (by decide) rfl (fun ls hl => ?_)
            refine lv_iconst (v := 3) hx hb dL_begin_31 (by decide) ?_
            exact m_iretX hx hb hr hlk V (Nat.le_of_ble_eq_true rfl) (Nat.le_of_ble_eq_true rfl) rfl dL_begin_32
        · replace h := ite_f he2 h
          exact nomatch h
def f_L_press (N : Nat) (σ τ : mSt) (o : Nat → Int64) (a1 : Int32) : Option (Int32 × mSt × mSt × (Nat → Int64)) := (f_X5_press N σ τ a1).bind fun q1 => oCase q1.1 (fun r1 => some (0, q1.2.1, q1.2.2, vp_updL o (0 : Int32).toNatClampNeg r1.toInt64)) (fun e1 => if e1 = "java/lang/IndexOutOfBoundsException" then some (1, q1.2.1, q1.2.2, o) else if e1 = "java/lang/IllegalStateException" then some (2, q1.2.1, q1.2.2, o) else  none)
set_option maxHeartbeats 4000000 in
set_option maxRecDepth 100000 in
theorem c_L_press {l : Launch} {D : va_G} {y : Nat → ClassId} {ad : Nat → Nat} {N : Nat} {σ τ : mSt} {o : Nat → Int64} {a1 : Int32} {q : Int32 × mSt × mSt × (Nat → Int64)} (hstk : l.stackTraces = false) (h : f_L_press N σ τ o a1 = some q) : mC l yL_press wsL_press { frames := 8, cells := 1, slots := 6, locals := 125 } D y 162 ad mZ2 (mHw y ad σ τ o) [.ref (ad 160), .int a1, .ref (ad 161)] (some (.int q.1)) (mHw y ad q.2.1 q.2.2.1 q.2.2.2) 1 6 := by
  refine mCX_plain (m_startW (cc := cL_press) (maxL := 4) (ret := (some .int)) (by decide) rfl (Nat.le_of_ble_eq_true rfl) (fun p e s m args below meth c ls hB htab V Z hl => ?_))
  obtain ⟨hx, hb, hml, hown, hts, hr, hlk⟩ := id hB
  have hl : lv_has ls 4 [(0, .ref (ad 160)), (1, .int a1), (2, .ref (ad 161))] := hl
  rw [f_L_press] at h
  refine lv_aload_n hx hb dL_press_0 rfl (lv_at hl 2 rfl) ?_
  refine lv_iconst (v := 0) hx hb dL_press_1 (by decide) ?_
  refine lv_aload_n hx hb dL_press_2 rfl (lv_at hl 0 rfl) ?_
  refine lv_iload_n hx hb dL_press_3 rfl (lv_at hl 1 rfl) ?_
  obtain ⟨q1, hq1, h⟩ := bd_s h
  cases ho1 : q1.1 with
  | inl r1 =>
    replace h := oCase_l ho1 h
    obtain rfl := Option.some.inj h
    refine kHB (As := [.int a1]) (rest := [.int 0, .ref (ad 161)]) ⟨hx, hb, hml, hown, hts⟩ Z.1 V (mOi_plain ho1 (c_X5_press (l := l) (D := D) (y := y) (ad := ad) hstk hq1)) (cwV 1 hts gL_press_X5_press rfl rfl rfl (by decide +kernel) ⟨Nat.le_of_ble_eq_true rfl, Nat.le_of_ble_eq_true rfl⟩) (by omega) ((mHw_0 (by omega)).trans (mB_b y ad _ _)) rfl rfl hl.1 rfl (Nat.le_of_ble_eq_true rfl) ⟨Nat.zero_le _, Nat.zero_le _⟩ rfl dL_press_4 (fun H locs V => ?_)
    refine lv_i2l hx hb dL_press_7 rfl ?_
    refine oH_st hx hb V (by decide +kernel) dL_press_8 (fun H locs V => ?_)
    refine lv_goto (tgt := 18) hx hb dL_press_9 (by decide) ?_
    refine lv_iconst (v := 0) hx hb dL_press_18 (by decide) ?_
    exact m_iretX hx hb hr hlk V (Nat.zero_le _) (Nat.zero_le _) rfl dL_press_19
  | inr e1 =>
    replace h := oCase_r ho1 h
    by_cases he0 : e1 = "java/lang/IndexOutOfBoundsException"
    · replace h := ite_t he0 h
      obtain rfl := Option.some.inj h
      subst he0
      refine kHBx (As := [.int a1]) (rest := [.int 0, .ref (ad 161)]) ⟨hx, hb, hml, hown, hts⟩ Z.1 V (mOi_throw ho1 (c_X5_press (l := l) (D := D) (y := y) (ad := ad) hstk hq1)) (cwV 1 hts gL_press_X5_press rfl rfl rfl (by decide +kernel) ⟨Nat.le_of_ble_eq_true rfl, Nat.le_of_ble_eq_true rfl⟩) (by omega) ((mHw_0 (by omega)).trans (mB_b y ad _ _)) rfl rfl hl.1 rfl (Nat.le_of_ble_eq_true rfl) ⟨Nat.le_of_ble_eq_true rfl, Nat.le_of_ble_eq_true rfl⟩ dL_press_4 (fun ce q9 H locs V hce hcv hcl => ?_)
      refine vx_catch (name := "java/lang/IndexOutOfBoundsException") hown [] ⟨0, 9, 12, 21⟩ [⟨0, 9, 15, 15⟩] (by rw [htab]; rfl) ?_ (by decide) (by decide) (va_Nw.use rfl (Z.2.2 _ (List.mem_of_getElem? (i := 2) rfl))) (va_Nw.use (mZw_tab _ (List.mem_of_getElem? (i := 0) rfl)) (Z.1.2.1 _ (List.mem_of_getElem? (i := 0) rfl))) hce hcv hcl ?_
      · intro z9 hz9
        exact absurd hz9 List.not_mem_nil
      · refine lv_astore_n (lv' := [(3, .ref q9), (0, .ref (ad 160)), (1, .int a1), (2, .ref (ad 161))]) hx hb dL_press_12 rfl hl (by decide) rfl (fun ls hl => ?_)
        refine lv_iconst (v := 1) hx hb dL_press_13 (by decide) ?_
        exact m_iretX hx hb hr hlk V (Nat.le_of_ble_eq_true rfl) (Nat.le_of_ble_eq_true rfl) rfl dL_press_14
    · replace h := ite_f he0 h
      by_cases he1 : e1 = "java/lang/IllegalStateException"
      · replace h := ite_t he1 h
        obtain rfl := Option.some.inj h
        subst he1
        refine kHBx (As := [.int a1]) (rest := [.int 0, .ref (ad 161)]) ⟨hx, hb, hml, hown, hts⟩ Z.1 V (mOi_throw ho1 (c_X5_press (l := l) (D := D) (y := y) (ad := ad) hstk hq1)) (cwV 1 hts gL_press_X5_press rfl rfl rfl (by decide +kernel) ⟨Nat.le_of_ble_eq_true rfl, Nat.le_of_ble_eq_true rfl⟩) (by omega) ((mHw_0 (by omega)).trans (mB_b y ad _ _)) rfl rfl hl.1 rfl (Nat.le_of_ble_eq_true rfl) ⟨Nat.le_of_ble_eq_true rfl, Nat.le_of_ble_eq_true rfl⟩ dL_press_4 (fun ce q9 H locs V hce hcv hcl => ?_)
        refine vx_catch (name := "java/lang/IllegalStateException") hown [⟨0, 9, 12, 21⟩] ⟨0, 9, 15, 15⟩ [] (by rw [htab]; rfl) ?_ (by decide) (by decide) (va_Nw.use rfl (Z.2.2 _ (List.mem_of_getElem? (i := 1) rfl))) (va_Nw.use (mZw_tab _ (List.mem_of_getElem? (i := 2) rfl)) (Z.1.2.1 _ (List.mem_of_getElem? (i := 2) rfl))) hce hcv hcl ?_
        · intro z9 hz9
          rcases List.mem_cons.mp hz9 with rfl | hz9
          · exact Or.inr ⟨by decide, _, va_Nw.use rfl (Z.2.2 _ (List.mem_of_getElem? (i := 2) rfl)), Z.2.1 _ (List.mem_of_getElem? (i := 1) rfl)⟩
          exact absurd hz9 List.not_mem_nil
        · refine lv_astore_n (lv' := [(3, .ref q9), (0, .ref (ad 160)), (1, .int a1), (2, .ref (ad 161))]) hx hb dL_press_15 rfl hl (by decide) rfl (fun ls hl => ?_)
          refine lv_iconst (v := 2) hx hb dL_press_16 (by decide) ?_
          exact m_iretX hx hb hr hlk V (Nat.le_of_ble_eq_true rfl) (Nat.le_of_ble_eq_true rfl) rfl dL_press_17
      · replace h := ite_f he1 h
        exact nomatch h
def f_L_put (N : Nat) (σ τ : mSt) (o : Nat → Int64) (a1 : Int32) (a2 : Int32) (a3 : Int32) : Option (Int32 × mSt × mSt × (Nat → Int64)) := (f_X5_put N σ τ a1 a2 a3).bind fun q1 => oCase q1.1 (fun r1 => some (0, q1.2.1, q1.2.2, vp_updL o (0 : Int32).toNatClampNeg r1.toInt64)) (fun e1 => if e1 = "java/lang/IndexOutOfBoundsException" then some (1, q1.2.1, q1.2.2, o) else if e1 = "java/lang/IllegalArgumentException" then some (2, q1.2.1, q1.2.2, o) else if e1 = "java/lang/IllegalStateException" then some (3, q1.2.1, q1.2.2, o) else  none)
set_option maxHeartbeats 4000000 in
set_option maxRecDepth 100000 in
theorem c_L_put {l : Launch} {D : va_G} {y : Nat → ClassId} {ad : Nat → Nat} {N : Nat} {σ τ : mSt} {o : Nat → Int64} {a1 : Int32} {a2 : Int32} {a3 : Int32} {q : Int32 × mSt × mSt × (Nat → Int64)} (hstk : l.stackTraces = false) (h : f_L_put N σ τ o a1 a2 a3 = some q) : mC l yL_put wsL_put { frames := 8, cells := 1, slots := 6, locals := 129 } D y 162 ad mZ2 (mHw y ad σ τ o) [.ref (ad 160), .int a1, .int a2, .int a3, .ref (ad 161)] (some (.int q.1)) (mHw y ad q.2.1 q.2.2.1 q.2.2.2) 1 6 := by
  refine mCX_plain (m_startW (cc := cL_put) (maxL := 6) (ret := (some .int)) (by decide) rfl (Nat.le_of_ble_eq_true rfl) (fun p e s m args below meth c ls hB htab V Z hl => ?_))
  obtain ⟨hx, hb, hml, hown, hts, hr, hlk⟩ := id hB
  have hl : lv_has ls 6 [(0, .ref (ad 160)), (1, .int a1), (2, .int a2), (3, .int a3), (4, .ref (ad 161))] := hl
  rw [f_L_put] at h
  refine lv_aload hx hb dL_put_0 (lv_at hl 4 rfl) ?_
  refine lv_iconst (v := 0) hx hb dL_put_2 (by decide) ?_
  refine lv_aload_n hx hb dL_put_3 rfl (lv_at hl 0 rfl) ?_
  refine lv_iload_n hx hb dL_put_4 rfl (lv_at hl 1 rfl) ?_
  refine lv_iload_n hx hb dL_put_5 rfl (lv_at hl 2 rfl) ?_
  refine lv_iload_n hx hb dL_put_6 rfl (lv_at hl 3 rfl) ?_
  obtain ⟨q1, hq1, h⟩ := bd_s h
  cases ho1 : q1.1 with
  | inl r1 =>
    replace h := oCase_l ho1 h
    obtain rfl := Option.some.inj h
    refine kHB (As := [.int a1, .int a2, .int a3]) (rest := [.int 0, .ref (ad 161)]) ⟨hx, hb, hml, hown, hts⟩ Z.1 V (mOi_plain ho1 (c_X5_put (l := l) (D := D) (y := y) (ad := ad) hstk hq1)) (cwV 3 hts gL_put_X5_put rfl rfl rfl (by decide +kernel) ⟨Nat.le_of_ble_eq_true rfl, Nat.le_of_ble_eq_true rfl⟩) (by omega) ((mHw_0 (by omega)).trans (mB_b y ad _ _)) rfl rfl hl.1 rfl (Nat.le_of_ble_eq_true rfl) ⟨Nat.zero_le _, Nat.zero_le _⟩ rfl dL_put_7 (fun H locs V => ?_)
    refine lv_i2l hx hb dL_put_10 rfl ?_
    refine oH_st hx hb V (by decide +kernel) dL_put_11 (fun H locs V => ?_)
    refine lv_goto (tgt := 27) hx hb dL_put_12 (by decide) ?_
    refine lv_iconst (v := 0) hx hb dL_put_27 (by decide) ?_
    exact m_iretX hx hb hr hlk V (Nat.zero_le _) (Nat.zero_le _) rfl dL_put_28
  | inr e1 =>
    replace h := oCase_r ho1 h
    by_cases he0 : e1 = "java/lang/IndexOutOfBoundsException"
    · replace h := ite_t he0 h
      obtain rfl := Option.some.inj h
      subst he0
      refine kHBx (As := [.int a1, .int a2, .int a3]) (rest := [.int 0, .ref (ad 161)]) ⟨hx, hb, hml, hown, hts⟩ Z.1 V (mOi_throw ho1 (c_X5_put (l := l) (D := D) (y := y) (ad := ad) hstk hq1)) (cwV 3 hts gL_put_X5_put rfl rfl rfl (by decide +kernel) ⟨Nat.le_of_ble_eq_true rfl, Nat.le_of_ble_eq_true rfl⟩) (by omega) ((mHw_0 (by omega)).trans (mB_b y ad _ _)) rfl rfl hl.1 rfl (Nat.le_of_ble_eq_true rfl) ⟨Nat.le_of_ble_eq_true rfl, Nat.le_of_ble_eq_true rfl⟩ dL_put_7 (fun ce q9 H locs V hce hcv hcl => ?_)
      refine vx_catch (name := "java/lang/IndexOutOfBoundsException") hown [] ⟨0, 12, 15, 21⟩ [⟨0, 12, 19, 13⟩, ⟨0, 12, 23, 15⟩] (by rw [htab]; rfl) ?_ (by decide) (by decide) (va_Nw.use rfl (Z.2.2 _ (List.mem_of_getElem? (i := 2) rfl))) (va_Nw.use (mZw_tab _ (List.mem_of_getElem? (i := 0) rfl)) (Z.1.2.1 _ (List.mem_of_getElem? (i := 0) rfl))) hce hcv hcl ?_
      · intro z9 hz9
        exact absurd hz9 List.not_mem_nil
      · refine lv_astore (lv' := [(5, .ref q9), (0, .ref (ad 160)), (1, .int a1), (2, .int a2), (3, .int a3), (4, .ref (ad 161))]) hx hb dL_put_15 hl (by decide) rfl (fun ls hl => ?_)
        refine lv_iconst (v := 1) hx hb dL_put_17 (by decide) ?_
        exact m_iretX hx hb hr hlk V (Nat.le_of_ble_eq_true rfl) (Nat.le_of_ble_eq_true rfl) rfl dL_put_18
    · replace h := ite_f he0 h
      by_cases he1 : e1 = "java/lang/IllegalArgumentException"
      · replace h := ite_t he1 h
        obtain rfl := Option.some.inj h
        subst he1
        refine kHBx (As := [.int a1, .int a2, .int a3]) (rest := [.int 0, .ref (ad 161)]) ⟨hx, hb, hml, hown, hts⟩ Z.1 V (mOi_throw ho1 (c_X5_put (l := l) (D := D) (y := y) (ad := ad) hstk hq1)) (cwV 3 hts gL_put_X5_put rfl rfl rfl (by decide +kernel) ⟨Nat.le_of_ble_eq_true rfl, Nat.le_of_ble_eq_true rfl⟩) (by omega) ((mHw_0 (by omega)).trans (mB_b y ad _ _)) rfl rfl hl.1 rfl (Nat.le_of_ble_eq_true rfl) ⟨Nat.le_of_ble_eq_true rfl, Nat.le_of_ble_eq_true rfl⟩ dL_put_7 (fun ce q9 H locs V hce hcv hcl => ?_)
        refine vx_catch (name := "java/lang/IllegalArgumentException") hown [⟨0, 12, 15, 21⟩] ⟨0, 12, 19, 13⟩ [⟨0, 12, 23, 15⟩] (by rw [htab]; rfl) ?_ (by decide) (by decide) (va_Nw.use rfl (Z.2.2 _ (List.mem_of_getElem? (i := 0) rfl))) (va_Nw.use (mZw_tab _ (List.mem_of_getElem? (i := 1) rfl)) (Z.1.2.1 _ (List.mem_of_getElem? (i := 1) rfl))) hce hcv hcl ?_
        · intro z9 hz9
          rcases List.mem_cons.mp hz9 with rfl | hz9
          · exact Or.inr ⟨by decide, _, va_Nw.use rfl (Z.2.2 _ (List.mem_of_getElem? (i := 2) rfl)), Z.2.1 _ (List.mem_of_getElem? (i := 0) rfl)⟩
          exact absurd hz9 List.not_mem_nil
        · refine lv_astore (lv' := [(5, .ref q9), (0, .ref (ad 160)), (1, .int a1), (2, .int a2), (3, .int a3), (4, .ref (ad 161))]) hx hb dL_put_19 hl (by decide) rfl (fun ls hl => ?_)
          refine lv_iconst (v := 2) hx hb dL_put_21 (by decide) ?_
          exact m_iretX hx hb hr hlk V (Nat.le_of_ble_eq_true rfl) (Nat.le_of_ble_eq_true rfl) rfl dL_put_22
      · replace h := ite_f he1 h
        by_cases he2 : e1 = "java/lang/IllegalStateException"
        · replace h := ite_t he2 h
          obtain rfl := Option.some.inj h
          subst he2
          refine kHBx (As := [.int a1, .int a2, .int a3]) (rest := [.int 0, .ref (ad 161)]) ⟨hx, hb, hml, hown, hts⟩ Z.1 V (mOi_throw ho1 (c_X5_put (l := l) (D := D) (y := y) (ad := ad) hstk hq1)) (cwV 3 hts gL_put_X5_put rfl rfl rfl (by decide +kernel) ⟨Nat.le_of_ble_eq_true rfl, Nat.le_of_ble_eq_true rfl⟩) (by omega) ((mHw_0 (by omega)).trans (mB_b y ad _ _)) rfl rfl hl.1 rfl (Nat.le_of_ble_eq_true rfl) ⟨Nat.le_of_ble_eq_true rfl, Nat.le_of_ble_eq_true rfl⟩ dL_put_7 (fun ce q9 H locs V hce hcv hcl => ?_)
          refine vx_catch (name := "java/lang/IllegalStateException") hown [⟨0, 12, 15, 21⟩, ⟨0, 12, 19, 13⟩] ⟨0, 12, 23, 15⟩ [] (by rw [htab]; rfl) ?_ (by decide) (by decide) (va_Nw.use rfl (Z.2.2 _ (List.mem_of_getElem? (i := 1) rfl))) (va_Nw.use (mZw_tab _ (List.mem_of_getElem? (i := 2) rfl)) (Z.1.2.1 _ (List.mem_of_getElem? (i := 2) rfl))) hce hcv hcl ?_
          · intro z9 hz9
            rcases List.mem_cons.mp hz9 with rfl | hz9
            · exact Or.inr ⟨by decide, _, va_Nw.use rfl (Z.2.2 _ (List.mem_of_getElem? (i := 2) rfl)), Z.2.1 _ (List.mem_of_getElem? (i := 1) rfl)⟩
            rcases List.mem_cons.mp hz9 with rfl | hz9
            · exact Or.inr ⟨by decide, _, va_Nw.use rfl (Z.2.2 _ (List.mem_of_getElem? (i := 0) rfl)), Z.2.1 _ (List.mem_of_getElem? (i := 2) rfl)⟩
            exact absurd hz9 List.not_mem_nil
          · refine lv_astore (lv' := [(5, .ref q9), (0, .ref (ad 160)), (1, .int a1), (2, .int a2), (3, .int a3), (4, .ref (ad 161))]) hx hb dL_put_23 hl (by decide) rfl (fun ls hl => ?_)
            refine lv_iconst (v := 3) hx hb dL_put_25 (by decide) ?_
            exact m_iretX hx hb hr hlk V (Nat.le_of_ble_eq_true rfl) (Nat.le_of_ble_eq_true rfl) rfl dL_put_26
        · replace h := ite_f he2 h
          exact nomatch h
def f_L_steal (N : Nat) (σ τ : mSt) (o : Nat → Int64) (a1 : Int32) (a2 : Int32) (a3 : Int32) : Option (Int32 × mSt × mSt × (Nat → Int64)) := (f_X5_steal N σ τ a1 a2 a3).bind fun q1 => oCase q1.1 (fun r1 => some (0, q1.2.1, q1.2.2, vp_updL o (0 : Int32).toNatClampNeg r1.toInt64)) (fun e1 => if e1 = "java/lang/IndexOutOfBoundsException" then some (1, q1.2.1, q1.2.2, o) else if e1 = "java/lang/IllegalArgumentException" then some (2, q1.2.1, q1.2.2, o) else if e1 = "java/lang/IllegalStateException" then some (3, q1.2.1, q1.2.2, o) else  none)
set_option maxHeartbeats 4000000 in
set_option maxRecDepth 100000 in
theorem c_L_steal {l : Launch} {D : va_G} {y : Nat → ClassId} {ad : Nat → Nat} {N : Nat} {σ τ : mSt} {o : Nat → Int64} {a1 : Int32} {a2 : Int32} {a3 : Int32} {q : Int32 × mSt × mSt × (Nat → Int64)} (hstk : l.stackTraces = false) (h : f_L_steal N σ τ o a1 a2 a3 = some q) : mC l yL_steal wsL_steal { frames := 8, cells := 1, slots := 6, locals := 129 } D y 162 ad mZ2 (mHw y ad σ τ o) [.ref (ad 160), .int a1, .int a2, .int a3, .ref (ad 161)] (some (.int q.1)) (mHw y ad q.2.1 q.2.2.1 q.2.2.2) 1 6 := by
  refine mCX_plain (m_startW (cc := cL_steal) (maxL := 6) (ret := (some .int)) (by decide) rfl (Nat.le_of_ble_eq_true rfl) (fun p e s m args below meth c ls hB htab V Z hl => ?_))
  obtain ⟨hx, hb, hml, hown, hts, hr, hlk⟩ := id hB
  have hl : lv_has ls 6 [(0, .ref (ad 160)), (1, .int a1), (2, .int a2), (3, .int a3), (4, .ref (ad 161))] := hl
  rw [f_L_steal] at h
  refine lv_aload hx hb dL_steal_0 (lv_at hl 4 rfl) ?_
  refine lv_iconst (v := 0) hx hb dL_steal_2 (by decide) ?_
  refine lv_aload_n hx hb dL_steal_3 rfl (lv_at hl 0 rfl) ?_
  refine lv_iload_n hx hb dL_steal_4 rfl (lv_at hl 1 rfl) ?_
  refine lv_iload_n hx hb dL_steal_5 rfl (lv_at hl 2 rfl) ?_
  refine lv_iload_n hx hb dL_steal_6 rfl (lv_at hl 3 rfl) ?_
  obtain ⟨q1, hq1, h⟩ := bd_s h
  cases ho1 : q1.1 with
  | inl r1 =>
    replace h := oCase_l ho1 h
    obtain rfl := Option.some.inj h
    refine kHB (As := [.int a1, .int a2, .int a3]) (rest := [.int 0, .ref (ad 161)]) ⟨hx, hb, hml, hown, hts⟩ Z.1 V (mOi_plain ho1 (c_X5_steal (l := l) (D := D) (y := y) (ad := ad) hstk hq1)) (cwV 3 hts gL_steal_X5_steal rfl rfl rfl (by decide +kernel) ⟨Nat.le_of_ble_eq_true rfl, Nat.le_of_ble_eq_true rfl⟩) (by omega) ((mHw_0 (by omega)).trans (mB_b y ad _ _)) rfl rfl hl.1 rfl (Nat.le_of_ble_eq_true rfl) ⟨Nat.zero_le _, Nat.zero_le _⟩ rfl dL_steal_7 (fun H locs V => ?_)
    refine lv_i2l hx hb dL_steal_10 rfl ?_
    refine oH_st hx hb V (by decide +kernel) dL_steal_11 (fun H locs V => ?_)
    refine lv_goto (tgt := 27) hx hb dL_steal_12 (by decide) ?_
    refine lv_iconst (v := 0) hx hb dL_steal_27 (by decide) ?_
    exact m_iretX hx hb hr hlk V (Nat.zero_le _) (Nat.zero_le _) rfl dL_steal_28
  | inr e1 =>
    replace h := oCase_r ho1 h
    by_cases he0 : e1 = "java/lang/IndexOutOfBoundsException"
    · replace h := ite_t he0 h
      obtain rfl := Option.some.inj h
      subst he0
      refine kHBx (As := [.int a1, .int a2, .int a3]) (rest := [.int 0, .ref (ad 161)]) ⟨hx, hb, hml, hown, hts⟩ Z.1 V (mOi_throw ho1 (c_X5_steal (l := l) (D := D) (y := y) (ad := ad) hstk hq1)) (cwV 3 hts gL_steal_X5_steal rfl rfl rfl (by decide +kernel) ⟨Nat.le_of_ble_eq_true rfl, Nat.le_of_ble_eq_true rfl⟩) (by omega) ((mHw_0 (by omega)).trans (mB_b y ad _ _)) rfl rfl hl.1 rfl (Nat.le_of_ble_eq_true rfl) ⟨Nat.le_of_ble_eq_true rfl, Nat.le_of_ble_eq_true rfl⟩ dL_steal_7 (fun ce q9 H locs V hce hcv hcl => ?_)
      refine vx_catch (name := "java/lang/IndexOutOfBoundsException") hown [] ⟨0, 12, 15, 21⟩ [⟨0, 12, 19, 13⟩, ⟨0, 12, 23, 15⟩] (by rw [htab]; rfl) ?_ (by decide) (by decide) (va_Nw.use rfl (Z.2.2 _ (List.mem_of_getElem? (i := 2) rfl))) (va_Nw.use (mZw_tab _ (List.mem_of_getElem? (i := 0) rfl)) (Z.1.2.1 _ (List.mem_of_getElem? (i := 0) rfl))) hce hcv hcl ?_
      · intro z9 hz9
        exact absurd hz9 List.not_mem_nil
      · refine lv_astore (lv' := [(5, .ref q9), (0, .ref (ad 160)), (1, .int a1), (2, .int a2), (3, .int a3), (4, .ref (ad 161))]) hx hb dL_steal_15 hl (by decide) rfl (fun ls hl => ?_)
        refine lv_iconst (v := 1) hx hb dL_steal_17 (by decide) ?_
        exact m_iretX hx hb hr hlk V (Nat.le_of_ble_eq_true rfl) (Nat.le_of_ble_eq_true rfl) rfl dL_steal_18
    · replace h := ite_f he0 h
      by_cases he1 : e1 = "java/lang/IllegalArgumentException"
      · replace h := ite_t he1 h
        obtain rfl := Option.some.inj h
        subst he1
        refine kHBx (As := [.int a1, .int a2, .int a3]) (rest := [.int 0, .ref (ad 161)]) ⟨hx, hb, hml, hown, hts⟩ Z.1 V (mOi_throw ho1 (c_X5_steal (l := l) (D := D) (y := y) (ad := ad) hstk hq1)) (cwV 3 hts gL_steal_X5_steal rfl rfl rfl (by decide +kernel) ⟨Nat.le_of_ble_eq_true rfl, Nat.le_of_ble_eq_true rfl⟩) (by omega) ((mHw_0 (by omega)).trans (mB_b y ad _ _)) rfl rfl hl.1 rfl (Nat.le_of_ble_eq_true rfl) ⟨Nat.le_of_ble_eq_true rfl, Nat.le_of_ble_eq_true rfl⟩ dL_steal_7 (fun ce q9 H locs V hce hcv hcl => ?_)
        refine vx_catch (name := "java/lang/IllegalArgumentException") hown [⟨0, 12, 15, 21⟩] ⟨0, 12, 19, 13⟩ [⟨0, 12, 23, 15⟩] (by rw [htab]; rfl) ?_ (by decide) (by decide) (va_Nw.use rfl (Z.2.2 _ (List.mem_of_getElem? (i := 0) rfl))) (va_Nw.use (mZw_tab _ (List.mem_of_getElem? (i := 1) rfl)) (Z.1.2.1 _ (List.mem_of_getElem? (i := 1) rfl))) hce hcv hcl ?_
        · intro z9 hz9
          rcases List.mem_cons.mp hz9 with rfl | hz9
          · exact Or.inr ⟨by decide, _, va_Nw.use rfl (Z.2.2 _ (List.mem_of_getElem? (i := 2) rfl)), Z.2.1 _ (List.mem_of_getElem? (i := 0) rfl)⟩
          exact absurd hz9 List.not_mem_nil
        · refine lv_astore (lv' := [(5, .ref q9), (0, .ref (ad 160)), (1, .int a1), (2, .int a2), (3, .int a3), (4, .ref (ad 161))]) hx hb dL_steal_19 hl (by decide) rfl (fun ls hl => ?_)
          refine lv_iconst (v := 2) hx hb dL_steal_21 (by decide) ?_
          exact m_iretX hx hb hr hlk V (Nat.le_of_ble_eq_true rfl) (Nat.le_of_ble_eq_true rfl) rfl dL_steal_22
      · replace h := ite_f he1 h
        by_cases he2 : e1 = "java/lang/IllegalStateException"
        · replace h := ite_t he2 h
          obtain rfl := Option.some.inj h
          subst he2
          refine kHBx (As := [.int a1, .int a2, .int a3]) (rest := [.int 0, .ref (ad 161)]) ⟨hx, hb, hml, hown, hts⟩ Z.1 V (mOi_throw ho1 (c_X5_steal (l := l) (D := D) (y := y) (ad := ad) hstk hq1)) (cwV 3 hts gL_steal_X5_steal rfl rfl rfl (by decide +kernel) ⟨Nat.le_of_ble_eq_true rfl, Nat.le_of_ble_eq_true rfl⟩) (by omega) ((mHw_0 (by omega)).trans (mB_b y ad _ _)) rfl rfl hl.1 rfl (Nat.le_of_ble_eq_true rfl) ⟨Nat.le_of_ble_eq_true rfl, Nat.le_of_ble_eq_true rfl⟩ dL_steal_7 (fun ce q9 H locs V hce hcv hcl => ?_)
          refine vx_catch (name := "java/lang/IllegalStateException") hown [⟨0, 12, 15, 21⟩, ⟨0, 12, 19, 13⟩] ⟨0, 12, 23, 15⟩ [] (by rw [htab]; rfl) ?_ (by decide) (by decide) (va_Nw.use rfl (Z.2.2 _ (List.mem_of_getElem? (i := 1) rfl))) (va_Nw.use (mZw_tab _ (List.mem_of_getElem? (i := 2) rfl)) (Z.1.2.1 _ (List.mem_of_getElem? (i := 2) rfl))) hce hcv hcl ?_
          · intro z9 hz9
            rcases List.mem_cons.mp hz9 with rfl | hz9
            · exact Or.inr ⟨by decide, _, va_Nw.use rfl (Z.2.2 _ (List.mem_of_getElem? (i := 2) rfl)), Z.2.1 _ (List.mem_of_getElem? (i := 1) rfl)⟩
            rcases List.mem_cons.mp hz9 with rfl | hz9
            · exact Or.inr ⟨by decide, _, va_Nw.use rfl (Z.2.2 _ (List.mem_of_getElem? (i := 0) rfl)), Z.2.1 _ (List.mem_of_getElem? (i := 2) rfl)⟩
            exact absurd hz9 List.not_mem_nil
          · refine lv_astore (lv' := [(5, .ref q9), (0, .ref (ad 160)), (1, .int a1), (2, .int a2), (3, .int a3), (4, .ref (ad 161))]) hx hb dL_steal_23 hl (by decide) rfl (fun ls hl => ?_)
            refine lv_iconst (v := 3) hx hb dL_steal_25 (by decide) ?_
            exact m_iretX hx hb hr hlk V (Nat.le_of_ble_eq_true rfl) (Nat.le_of_ble_eq_true rfl) rfl dL_steal_26
        · replace h := ite_f he2 h
          exact nomatch h
def f_L_end (N : Nat) (σ τ : mSt) (o : Nat → Int64) (a1 : Int32) (a2 : Int32) : Option (Int32 × mSt × mSt × (Nat → Int64)) := (f_X5_end N σ τ a1 a2).bind fun q1 => oCase q1.1 (fun r1 => some (0, q1.2.1, q1.2.2, vp_updL o (0 : Int32).toNatClampNeg r1.toInt64)) (fun e1 => if e1 = "java/lang/IndexOutOfBoundsException" then some (1, q1.2.1, q1.2.2, o) else if e1 = "java/lang/IllegalArgumentException" then some (2, q1.2.1, q1.2.2, o) else if e1 = "java/lang/IllegalStateException" then some (3, q1.2.1, q1.2.2, o) else  none)
set_option maxHeartbeats 4000000 in
set_option maxRecDepth 100000 in
theorem c_L_end {l : Launch} {D : va_G} {y : Nat → ClassId} {ad : Nat → Nat} {N : Nat} {σ τ : mSt} {o : Nat → Int64} {a1 : Int32} {a2 : Int32} {q : Int32 × mSt × mSt × (Nat → Int64)} (hstk : l.stackTraces = false) (h : f_L_end N σ τ o a1 a2 = some q) : mC l yL_end wsL_end { frames := 9, cells := 1, slots := 6, locals := 152 } D y 162 ad mZ2 (mHw y ad σ τ o) [.ref (ad 160), .int a1, .int a2, .ref (ad 161)] (some (.int q.1)) (mHw y ad q.2.1 q.2.2.1 q.2.2.2) 1 6 := by
  refine mCX_plain (m_startW (cc := cL_end) (maxL := 5) (ret := (some .int)) (by decide) rfl (Nat.le_of_ble_eq_true rfl) (fun p e s m args below meth c ls hB htab V Z hl => ?_))
  obtain ⟨hx, hb, hml, hown, hts, hr, hlk⟩ := id hB
  have hl : lv_has ls 5 [(0, .ref (ad 160)), (1, .int a1), (2, .int a2), (3, .ref (ad 161))] := hl
  rw [f_L_end] at h
  refine lv_aload_n hx hb dL_end_0 rfl (lv_at hl 3 rfl) ?_
  refine lv_iconst (v := 0) hx hb dL_end_1 (by decide) ?_
  refine lv_aload_n hx hb dL_end_2 rfl (lv_at hl 0 rfl) ?_
  refine lv_iload_n hx hb dL_end_3 rfl (lv_at hl 1 rfl) ?_
  refine lv_iload_n hx hb dL_end_4 rfl (lv_at hl 2 rfl) ?_
  obtain ⟨q1, hq1, h⟩ := bd_s h
  cases ho1 : q1.1 with
  | inl r1 =>
    replace h := oCase_l ho1 h
    obtain rfl := Option.some.inj h
    refine kHB (As := [.int a1, .int a2]) (rest := [.int 0, .ref (ad 161)]) ⟨hx, hb, hml, hown, hts⟩ Z.1 V (mOi_plain ho1 (c_X5_end (l := l) (D := D) (y := y) (ad := ad) hstk hq1)) (cwV 2 hts gL_end_X5_end rfl rfl rfl (by decide +kernel) ⟨Nat.le_of_ble_eq_true rfl, Nat.le_of_ble_eq_true rfl⟩) (by omega) ((mHw_0 (by omega)).trans (mB_b y ad _ _)) rfl rfl hl.1 rfl (Nat.le_of_ble_eq_true rfl) ⟨Nat.zero_le _, Nat.zero_le _⟩ rfl dL_end_5 (fun H locs V => ?_)
    refine lv_i2l hx hb dL_end_8 rfl ?_
    refine oH_st hx hb V (by decide +kernel) dL_end_9 (fun H locs V => ?_)
    refine lv_goto (tgt := 25) hx hb dL_end_10 (by decide) ?_
    refine lv_iconst (v := 0) hx hb dL_end_25 (by decide) ?_
    exact m_iretX hx hb hr hlk V (Nat.zero_le _) (Nat.zero_le _) rfl dL_end_26
  | inr e1 =>
    replace h := oCase_r ho1 h
    by_cases he0 : e1 = "java/lang/IndexOutOfBoundsException"
    · replace h := ite_t he0 h
      obtain rfl := Option.some.inj h
      subst he0
      refine kHBx (As := [.int a1, .int a2]) (rest := [.int 0, .ref (ad 161)]) ⟨hx, hb, hml, hown, hts⟩ Z.1 V (mOi_throw ho1 (c_X5_end (l := l) (D := D) (y := y) (ad := ad) hstk hq1)) (cwV 2 hts gL_end_X5_end rfl rfl rfl (by decide +kernel) ⟨Nat.le_of_ble_eq_true rfl, Nat.le_of_ble_eq_true rfl⟩) (by omega) ((mHw_0 (by omega)).trans (mB_b y ad _ _)) rfl rfl hl.1 rfl (Nat.le_of_ble_eq_true rfl) ⟨Nat.le_of_ble_eq_true rfl, Nat.le_of_ble_eq_true rfl⟩ dL_end_5 (fun ce q9 H locs V hce hcv hcl => ?_)
      refine vx_catch (name := "java/lang/IndexOutOfBoundsException") hown [] ⟨0, 10, 13, 21⟩ [⟨0, 10, 17, 13⟩, ⟨0, 10, 21, 15⟩] (by rw [htab]; rfl) ?_ (by decide) (by decide) (va_Nw.use rfl (Z.2.2 _ (List.mem_of_getElem? (i := 2) rfl))) (va_Nw.use (mZw_tab _ (List.mem_of_getElem? (i := 0) rfl)) (Z.1.2.1 _ (List.mem_of_getElem? (i := 0) rfl))) hce hcv hcl ?_
      · intro z9 hz9
        exact absurd hz9 List.not_mem_nil
      · refine lv_astore (lv' := [(4, .ref q9), (0, .ref (ad 160)), (1, .int a1), (2, .int a2), (3, .ref (ad 161))]) hx hb dL_end_13 hl (by decide) rfl (fun ls hl => ?_)
        refine lv_iconst (v := 1) hx hb dL_end_15 (by decide) ?_
        exact m_iretX hx hb hr hlk V (Nat.le_of_ble_eq_true rfl) (Nat.le_of_ble_eq_true rfl) rfl dL_end_16
    · replace h := ite_f he0 h
      by_cases he1 : e1 = "java/lang/IllegalArgumentException"
      · replace h := ite_t he1 h
        obtain rfl := Option.some.inj h
        subst he1
        refine kHBx (As := [.int a1, .int a2]) (rest := [.int 0, .ref (ad 161)]) ⟨hx, hb, hml, hown, hts⟩ Z.1 V (mOi_throw ho1 (c_X5_end (l := l) (D := D) (y := y) (ad := ad) hstk hq1)) (cwV 2 hts gL_end_X5_end rfl rfl rfl (by decide +kernel) ⟨Nat.le_of_ble_eq_true rfl, Nat.le_of_ble_eq_true rfl⟩) (by omega) ((mHw_0 (by omega)).trans (mB_b y ad _ _)) rfl rfl hl.1 rfl (Nat.le_of_ble_eq_true rfl) ⟨Nat.le_of_ble_eq_true rfl, Nat.le_of_ble_eq_true rfl⟩ dL_end_5 (fun ce q9 H locs V hce hcv hcl => ?_)
        refine vx_catch (name := "java/lang/IllegalArgumentException") hown [⟨0, 10, 13, 21⟩] ⟨0, 10, 17, 13⟩ [⟨0, 10, 21, 15⟩] (by rw [htab]; rfl) ?_ (by decide) (by decide) (va_Nw.use rfl (Z.2.2 _ (List.mem_of_getElem? (i := 0) rfl))) (va_Nw.use (mZw_tab _ (List.mem_of_getElem? (i := 1) rfl)) (Z.1.2.1 _ (List.mem_of_getElem? (i := 1) rfl))) hce hcv hcl ?_
        · intro z9 hz9
          rcases List.mem_cons.mp hz9 with rfl | hz9
          · exact Or.inr ⟨by decide, _, va_Nw.use rfl (Z.2.2 _ (List.mem_of_getElem? (i := 2) rfl)), Z.2.1 _ (List.mem_of_getElem? (i := 0) rfl)⟩
          exact absurd hz9 List.not_mem_nil
        · refine lv_astore (lv' := [(4, .ref q9), (0, .ref (ad 160)), (1, .int a1), (2, .int a2), (3, .ref (ad 161))]) hx hb dL_end_17 hl (by decide) rfl (fun ls hl => ?_)
          refine lv_iconst (v := 2) hx hb dL_end_19 (by decide) ?_
          exact m_iretX hx hb hr hlk V (Nat.le_of_ble_eq_true rfl) (Nat.le_of_ble_eq_true rfl) rfl dL_end_20
      · replace h := ite_f he1 h
        by_cases he2 : e1 = "java/lang/IllegalStateException"
        · replace h := ite_t he2 h
          obtain rfl := Option.some.inj h
          subst he2
          refine kHBx (As := [.int a1, .int a2]) (rest := [.int 0, .ref (ad 161)]) ⟨hx, hb, hml, hown, hts⟩ Z.1 V (mOi_throw ho1 (c_X5_end (l := l) (D := D) (y := y) (ad := ad) hstk hq1)) (cwV 2 hts gL_end_X5_end rfl rfl rfl (by decide +kernel) ⟨Nat.le_of_ble_eq_true rfl, Nat.le_of_ble_eq_true rfl⟩) (by omega) ((mHw_0 (by omega)).trans (mB_b y ad _ _)) rfl rfl hl.1 rfl (Nat.le_of_ble_eq_true rfl) ⟨Nat.le_of_ble_eq_true rfl, Nat.le_of_ble_eq_true rfl⟩ dL_end_5 (fun ce q9 H locs V hce hcv hcl => ?_)
          refine vx_catch (name := "java/lang/IllegalStateException") hown [⟨0, 10, 13, 21⟩, ⟨0, 10, 17, 13⟩] ⟨0, 10, 21, 15⟩ [] (by rw [htab]; rfl) ?_ (by decide) (by decide) (va_Nw.use rfl (Z.2.2 _ (List.mem_of_getElem? (i := 1) rfl))) (va_Nw.use (mZw_tab _ (List.mem_of_getElem? (i := 2) rfl)) (Z.1.2.1 _ (List.mem_of_getElem? (i := 2) rfl))) hce hcv hcl ?_
          · intro z9 hz9
            rcases List.mem_cons.mp hz9 with rfl | hz9
            · exact Or.inr ⟨by decide, _, va_Nw.use rfl (Z.2.2 _ (List.mem_of_getElem? (i := 2) rfl)), Z.2.1 _ (List.mem_of_getElem? (i := 1) rfl)⟩
            rcases List.mem_cons.mp hz9 with rfl | hz9
            · exact Or.inr ⟨by decide, _, va_Nw.use rfl (Z.2.2 _ (List.mem_of_getElem? (i := 0) rfl)), Z.2.1 _ (List.mem_of_getElem? (i := 2) rfl)⟩
            exact absurd hz9 List.not_mem_nil
          · refine lv_astore (lv' := [(4, .ref q9), (0, .ref (ad 160)), (1, .int a1), (2, .int a2), (3, .ref (ad 161))]) hx hb dL_end_21 hl (by decide) rfl (fun ls hl => ?_)
            refine lv_iconst (v := 3) hx hb dL_end_23 (by decide) ?_
            exact m_iretX hx hb hr hlk V (Nat.le_of_ble_eq_true rfl) (Nat.le_of_ble_eq_true rfl) rfl dL_end_24
        · replace h := ite_f he2 h
          exact nomatch h
def f_L_game (N : Nat) (σ τ : mSt) (o : Nat → Int64) (a1 : Int32) (a2 : Int32) : Option (Int32 × mSt × mSt × (Nat → Int64)) := (f_X5_game N σ τ a1 a2).bind fun q1 => oCase q1.1 (fun r1 => some (0, q1.2.1, q1.2.2, vp_updL o (0 : Int32).toNatClampNeg r1.toInt64)) (fun e1 => if e1 = "java/lang/IndexOutOfBoundsException" then some (1, q1.2.1, q1.2.2, o) else  none)
set_option maxHeartbeats 4000000 in
set_option maxRecDepth 100000 in
theorem c_L_game {l : Launch} {D : va_G} {y : Nat → ClassId} {ad : Nat → Nat} {N : Nat} {σ τ : mSt} {o : Nat → Int64} {a1 : Int32} {a2 : Int32} {q : Int32 × mSt × mSt × (Nat → Int64)} (hstk : l.stackTraces = false) (h : f_L_game N σ τ o a1 a2 = some q) : mC l yL_game wsL_game { frames := 8, cells := 1, slots := 6, locals := 126 } D y 162 ad mZ2 (mHw y ad σ τ o) [.ref (ad 160), .int a1, .int a2, .ref (ad 161)] (some (.int q.1)) (mHw y ad q.2.1 q.2.2.1 q.2.2.2) 1 6 := by
  refine mCX_plain (m_startW (cc := cL_game) (maxL := 5) (ret := (some .int)) (by decide) rfl (Nat.le_of_ble_eq_true rfl) (fun p e s m args below meth c ls hB htab V Z hl => ?_))
  obtain ⟨hx, hb, hml, hown, hts, hr, hlk⟩ := id hB
  have hl : lv_has ls 5 [(0, .ref (ad 160)), (1, .int a1), (2, .int a2), (3, .ref (ad 161))] := hl
  rw [f_L_game] at h
  refine lv_aload_n hx hb dL_game_0 rfl (lv_at hl 3 rfl) ?_
  refine lv_iconst (v := 0) hx hb dL_game_1 (by decide) ?_
  refine lv_aload_n hx hb dL_game_2 rfl (lv_at hl 0 rfl) ?_
  refine lv_iload_n hx hb dL_game_3 rfl (lv_at hl 1 rfl) ?_
  refine lv_iload_n hx hb dL_game_4 rfl (lv_at hl 2 rfl) ?_
  obtain ⟨q1, hq1, h⟩ := bd_s h
  cases ho1 : q1.1 with
  | inl r1 =>
    replace h := oCase_l ho1 h
    obtain rfl := Option.some.inj h
    refine kHB (As := [.int a1, .int a2]) (rest := [.int 0, .ref (ad 161)]) ⟨hx, hb, hml, hown, hts⟩ Z.1 V (mOi_plain ho1 (c_X5_game (l := l) (D := D) (y := y) (ad := ad) hstk hq1)) (cwV 2 hts gL_game_X5_game rfl rfl rfl (by decide +kernel) ⟨Nat.le_of_ble_eq_true rfl, Nat.le_of_ble_eq_true rfl⟩) (by omega) ((mHw_0 (by omega)).trans (mB_b y ad _ _)) rfl rfl hl.1 rfl (Nat.le_of_ble_eq_true rfl) ⟨Nat.zero_le _, Nat.zero_le _⟩ rfl dL_game_5 (fun H locs V => ?_)
    refine lv_i2l hx hb dL_game_8 rfl ?_
    refine oH_st hx hb V (by decide +kernel) dL_game_9 (fun H locs V => ?_)
    refine lv_goto (tgt := 17) hx hb dL_game_10 (by decide) ?_
    refine lv_iconst (v := 0) hx hb dL_game_17 (by decide) ?_
    exact m_iretX hx hb hr hlk V (Nat.zero_le _) (Nat.zero_le _) rfl dL_game_18
  | inr e1 =>
    replace h := oCase_r ho1 h
    by_cases he0 : e1 = "java/lang/IndexOutOfBoundsException"
    · replace h := ite_t he0 h
      obtain rfl := Option.some.inj h
      subst he0
      refine kHBx (As := [.int a1, .int a2]) (rest := [.int 0, .ref (ad 161)]) ⟨hx, hb, hml, hown, hts⟩ Z.1 V (mOi_throw ho1 (c_X5_game (l := l) (D := D) (y := y) (ad := ad) hstk hq1)) (cwV 2 hts gL_game_X5_game rfl rfl rfl (by decide +kernel) ⟨Nat.le_of_ble_eq_true rfl, Nat.le_of_ble_eq_true rfl⟩) (by omega) ((mHw_0 (by omega)).trans (mB_b y ad _ _)) rfl rfl hl.1 rfl (Nat.le_of_ble_eq_true rfl) ⟨Nat.le_of_ble_eq_true rfl, Nat.le_of_ble_eq_true rfl⟩ dL_game_5 (fun ce q9 H locs V hce hcv hcl => ?_)
      refine vx_catch (name := "java/lang/IndexOutOfBoundsException") hown [] ⟨0, 10, 13, 21⟩ [] (by rw [htab]; rfl) ?_ (by decide) (by decide) (va_Nw.use rfl (Z.2.2 _ (List.mem_of_getElem? (i := 2) rfl))) (va_Nw.use (mZw_tab _ (List.mem_of_getElem? (i := 0) rfl)) (Z.1.2.1 _ (List.mem_of_getElem? (i := 0) rfl))) hce hcv hcl ?_
      · intro z9 hz9
        exact absurd hz9 List.not_mem_nil
      · refine lv_astore (lv' := [(4, .ref q9), (0, .ref (ad 160)), (1, .int a1), (2, .int a2), (3, .ref (ad 161))]) hx hb dL_game_13 hl (by decide) rfl (fun ls hl => ?_)
        refine lv_iconst (v := 1) hx hb dL_game_15 (by decide) ?_
        exact m_iretX hx hb hr hlk V (Nat.le_of_ble_eq_true rfl) (Nat.le_of_ble_eq_true rfl) rfl dL_game_16
    · replace h := ite_f he0 h
      exact nomatch h
def f_L_pass (N : Nat) (σ τ : mSt) (o : Nat → Int64) (a1 : Int32) : Option (Int32 × mSt × mSt × (Nat → Int64)) := (f_X5_pass N σ τ a1).bind fun q1 => oCase q1.1 (fun r1 => some (0, q1.2.1, q1.2.2, vp_updL o (0 : Int32).toNatClampNeg r1.toInt64)) (fun e1 => if e1 = "java/lang/IllegalArgumentException" then some (1, q1.2.1, q1.2.2, o) else if e1 = "java/lang/IllegalStateException" then some (2, q1.2.1, q1.2.2, o) else  none)
set_option maxHeartbeats 4000000 in
set_option maxRecDepth 100000 in
theorem c_L_pass {l : Launch} {D : va_G} {y : Nat → ClassId} {ad : Nat → Nat} {N : Nat} {σ τ : mSt} {o : Nat → Int64} {a1 : Int32} {q : Int32 × mSt × mSt × (Nat → Int64)} (hstk : l.stackTraces = false) (h : f_L_pass N σ τ o a1 = some q) : mC l yL_pass wsL_pass { frames := 11, cells := 1, slots := 6, locals := 196 } D y 162 ad mZ2 (mHw y ad σ τ o) [.ref (ad 160), .int a1, .ref (ad 161)] (some (.int q.1)) (mHw y ad q.2.1 q.2.2.1 q.2.2.2) 1 6 := by
  refine mCX_plain (m_startW (cc := cL_pass) (maxL := 4) (ret := (some .int)) (by decide) rfl (Nat.le_of_ble_eq_true rfl) (fun p e s m args below meth c ls hB htab V Z hl => ?_))
  obtain ⟨hx, hb, hml, hown, hts, hr, hlk⟩ := id hB
  have hl : lv_has ls 4 [(0, .ref (ad 160)), (1, .int a1), (2, .ref (ad 161))] := hl
  rw [f_L_pass] at h
  refine lv_aload_n hx hb dL_pass_0 rfl (lv_at hl 2 rfl) ?_
  refine lv_iconst (v := 0) hx hb dL_pass_1 (by decide) ?_
  refine lv_aload_n hx hb dL_pass_2 rfl (lv_at hl 0 rfl) ?_
  refine lv_iload_n hx hb dL_pass_3 rfl (lv_at hl 1 rfl) ?_
  obtain ⟨q1, hq1, h⟩ := bd_s h
  cases ho1 : q1.1 with
  | inl r1 =>
    replace h := oCase_l ho1 h
    obtain rfl := Option.some.inj h
    refine kHB (As := [.int a1]) (rest := [.int 0, .ref (ad 161)]) ⟨hx, hb, hml, hown, hts⟩ Z.1 V (mOi_plain ho1 (c_X5_pass (l := l) (D := D) (y := y) (ad := ad) hstk hq1)) (cwV 1 hts gL_pass_X5_pass rfl rfl rfl (by decide +kernel) ⟨Nat.le_of_ble_eq_true rfl, Nat.le_of_ble_eq_true rfl⟩) (by omega) ((mHw_0 (by omega)).trans (mB_b y ad _ _)) rfl rfl hl.1 rfl (Nat.le_of_ble_eq_true rfl) ⟨Nat.zero_le _, Nat.zero_le _⟩ rfl dL_pass_4 (fun H locs V => ?_)
    refine lv_i2l hx hb dL_pass_7 rfl ?_
    refine oH_st hx hb V (by decide +kernel) dL_pass_8 (fun H locs V => ?_)
    refine lv_goto (tgt := 18) hx hb dL_pass_9 (by decide) ?_
    refine lv_iconst (v := 0) hx hb dL_pass_18 (by decide) ?_
    exact m_iretX hx hb hr hlk V (Nat.zero_le _) (Nat.zero_le _) rfl dL_pass_19
  | inr e1 =>
    replace h := oCase_r ho1 h
    by_cases he0 : e1 = "java/lang/IllegalArgumentException"
    · replace h := ite_t he0 h
      obtain rfl := Option.some.inj h
      subst he0
      refine kHBx (As := [.int a1]) (rest := [.int 0, .ref (ad 161)]) ⟨hx, hb, hml, hown, hts⟩ Z.1 V (mOi_throw ho1 (c_X5_pass (l := l) (D := D) (y := y) (ad := ad) hstk hq1)) (cwV 1 hts gL_pass_X5_pass rfl rfl rfl (by decide +kernel) ⟨Nat.le_of_ble_eq_true rfl, Nat.le_of_ble_eq_true rfl⟩) (by omega) ((mHw_0 (by omega)).trans (mB_b y ad _ _)) rfl rfl hl.1 rfl (Nat.le_of_ble_eq_true rfl) ⟨Nat.le_of_ble_eq_true rfl, Nat.le_of_ble_eq_true rfl⟩ dL_pass_4 (fun ce q9 H locs V hce hcv hcl => ?_)
      refine vx_catch (name := "java/lang/IllegalArgumentException") hown [] ⟨0, 9, 12, 13⟩ [⟨0, 9, 15, 15⟩] (by rw [htab]; rfl) ?_ (by decide) (by decide) (va_Nw.use rfl (Z.2.2 _ (List.mem_of_getElem? (i := 0) rfl))) (va_Nw.use (mZw_tab _ (List.mem_of_getElem? (i := 1) rfl)) (Z.1.2.1 _ (List.mem_of_getElem? (i := 1) rfl))) hce hcv hcl ?_
      · intro z9 hz9
        exact absurd hz9 List.not_mem_nil
      · refine lv_astore_n (lv' := [(3, .ref q9), (0, .ref (ad 160)), (1, .int a1), (2, .ref (ad 161))]) hx hb dL_pass_12 rfl hl (by decide) rfl (fun ls hl => ?_)
        refine lv_iconst (v := 1) hx hb dL_pass_13 (by decide) ?_
        exact m_iretX hx hb hr hlk V (Nat.le_of_ble_eq_true rfl) (Nat.le_of_ble_eq_true rfl) rfl dL_pass_14
    · replace h := ite_f he0 h
      by_cases he1 : e1 = "java/lang/IllegalStateException"
      · replace h := ite_t he1 h
        obtain rfl := Option.some.inj h
        subst he1
        refine kHBx (As := [.int a1]) (rest := [.int 0, .ref (ad 161)]) ⟨hx, hb, hml, hown, hts⟩ Z.1 V (mOi_throw ho1 (c_X5_pass (l := l) (D := D) (y := y) (ad := ad) hstk hq1)) (cwV 1 hts gL_pass_X5_pass rfl rfl rfl (by decide +kernel) ⟨Nat.le_of_ble_eq_true rfl, Nat.le_of_ble_eq_true rfl⟩) (by omega) ((mHw_0 (by omega)).trans (mB_b y ad _ _)) rfl rfl hl.1 rfl (Nat.le_of_ble_eq_true rfl) ⟨Nat.le_of_ble_eq_true rfl, Nat.le_of_ble_eq_true rfl⟩ dL_pass_4 (fun ce q9 H locs V hce hcv hcl => ?_)
        refine vx_catch (name := "java/lang/IllegalStateException") hown [⟨0, 9, 12, 13⟩] ⟨0, 9, 15, 15⟩ [] (by rw [htab]; rfl) ?_ (by decide) (by decide) (va_Nw.use rfl (Z.2.2 _ (List.mem_of_getElem? (i := 1) rfl))) (va_Nw.use (mZw_tab _ (List.mem_of_getElem? (i := 2) rfl)) (Z.1.2.1 _ (List.mem_of_getElem? (i := 2) rfl))) hce hcv hcl ?_
        · intro z9 hz9
          rcases List.mem_cons.mp hz9 with rfl | hz9
          · exact Or.inr ⟨by decide, _, va_Nw.use rfl (Z.2.2 _ (List.mem_of_getElem? (i := 0) rfl)), Z.2.1 _ (List.mem_of_getElem? (i := 2) rfl)⟩
          exact absurd hz9 List.not_mem_nil
        · refine lv_astore_n (lv' := [(3, .ref q9), (0, .ref (ad 160)), (1, .int a1), (2, .ref (ad 161))]) hx hb dL_pass_15 rfl hl (by decide) rfl (fun ls hl => ?_)
          refine lv_iconst (v := 2) hx hb dL_pass_16 (by decide) ?_
          exact m_iretX hx hb hr hlk V (Nat.le_of_ble_eq_true rfl) (Nat.le_of_ble_eq_true rfl) rfl dL_pass_17
      · replace h := ite_f he1 h
        exact nomatch h
def f_L_count (N : Nat) (σ τ : mSt) (o : Nat → Int64) (a1 : Int32) : Option (Int32 × mSt × mSt × (Nat → Int64)) := (f_X5_count N σ τ a1).bind fun q1 => oCase q1.1 (fun r1 => some (0, q1.2.1, q1.2.2, vp_updL o (0 : Int32).toNatClampNeg r1.toInt64)) (fun e1 => if e1 = "java/lang/IndexOutOfBoundsException" then some (1, q1.2.1, q1.2.2, o) else  none)
set_option maxHeartbeats 4000000 in
set_option maxRecDepth 100000 in
theorem c_L_count {l : Launch} {D : va_G} {y : Nat → ClassId} {ad : Nat → Nat} {N : Nat} {σ τ : mSt} {o : Nat → Int64} {a1 : Int32} {q : Int32 × mSt × mSt × (Nat → Int64)} (hstk : l.stackTraces = false) (h : f_L_count N σ τ o a1 = some q) : mC l yL_count wsL_count { frames := 7, cells := 1, slots := 6, locals := 103 } D y 162 ad mZ2 (mHw y ad σ τ o) [.ref (ad 160), .int a1, .ref (ad 161)] (some (.int q.1)) (mHw y ad q.2.1 q.2.2.1 q.2.2.2) 1 6 := by
  refine mCX_plain (m_startW (cc := cL_count) (maxL := 4) (ret := (some .int)) (by decide) rfl (Nat.le_of_ble_eq_true rfl) (fun p e s m args below meth c ls hB htab V Z hl => ?_))
  obtain ⟨hx, hb, hml, hown, hts, hr, hlk⟩ := id hB
  have hl : lv_has ls 4 [(0, .ref (ad 160)), (1, .int a1), (2, .ref (ad 161))] := hl
  rw [f_L_count] at h
  refine lv_aload_n hx hb dL_count_0 rfl (lv_at hl 2 rfl) ?_
  refine lv_iconst (v := 0) hx hb dL_count_1 (by decide) ?_
  refine lv_aload_n hx hb dL_count_2 rfl (lv_at hl 0 rfl) ?_
  refine lv_iload_n hx hb dL_count_3 rfl (lv_at hl 1 rfl) ?_
  obtain ⟨q1, hq1, h⟩ := bd_s h
  cases ho1 : q1.1 with
  | inl r1 =>
    replace h := oCase_l ho1 h
    obtain rfl := Option.some.inj h
    refine kHB (As := [.int a1]) (rest := [.int 0, .ref (ad 161)]) ⟨hx, hb, hml, hown, hts⟩ Z.1 V (mOi_plain ho1 (c_X5_count (l := l) (D := D) (y := y) (ad := ad) hstk hq1)) (cwV 1 hts gL_count_X5_count rfl rfl rfl (by decide +kernel) ⟨Nat.le_of_ble_eq_true rfl, Nat.le_of_ble_eq_true rfl⟩) (by omega) ((mHw_0 (by omega)).trans (mB_b y ad _ _)) rfl rfl hl.1 rfl (Nat.le_of_ble_eq_true rfl) ⟨Nat.zero_le _, Nat.zero_le _⟩ rfl dL_count_4 (fun H locs V => ?_)
    refine lv_i2l hx hb dL_count_7 rfl ?_
    refine oH_st hx hb V (by decide +kernel) dL_count_8 (fun H locs V => ?_)
    refine lv_goto (tgt := 15) hx hb dL_count_9 (by decide) ?_
    refine lv_iconst (v := 0) hx hb dL_count_15 (by decide) ?_
    exact m_iretX hx hb hr hlk V (Nat.zero_le _) (Nat.zero_le _) rfl dL_count_16
  | inr e1 =>
    replace h := oCase_r ho1 h
    by_cases he0 : e1 = "java/lang/IndexOutOfBoundsException"
    · replace h := ite_t he0 h
      obtain rfl := Option.some.inj h
      subst he0
      refine kHBx (As := [.int a1]) (rest := [.int 0, .ref (ad 161)]) ⟨hx, hb, hml, hown, hts⟩ Z.1 V (mOi_throw ho1 (c_X5_count (l := l) (D := D) (y := y) (ad := ad) hstk hq1)) (cwV 1 hts gL_count_X5_count rfl rfl rfl (by decide +kernel) ⟨Nat.le_of_ble_eq_true rfl, Nat.le_of_ble_eq_true rfl⟩) (by omega) ((mHw_0 (by omega)).trans (mB_b y ad _ _)) rfl rfl hl.1 rfl (Nat.le_of_ble_eq_true rfl) ⟨Nat.le_of_ble_eq_true rfl, Nat.le_of_ble_eq_true rfl⟩ dL_count_4 (fun ce q9 H locs V hce hcv hcl => ?_)
      refine vx_catch (name := "java/lang/IndexOutOfBoundsException") hown [] ⟨0, 9, 12, 21⟩ [] (by rw [htab]; rfl) ?_ (by decide) (by decide) (va_Nw.use rfl (Z.2.2 _ (List.mem_of_getElem? (i := 2) rfl))) (va_Nw.use (mZw_tab _ (List.mem_of_getElem? (i := 0) rfl)) (Z.1.2.1 _ (List.mem_of_getElem? (i := 0) rfl))) hce hcv hcl ?_
      · intro z9 hz9
        exact absurd hz9 List.not_mem_nil
      · refine lv_astore_n (lv' := [(3, .ref q9), (0, .ref (ad 160)), (1, .int a1), (2, .ref (ad 161))]) hx hb dL_count_12 rfl hl (by decide) rfl (fun ls hl => ?_)
        refine lv_iconst (v := 1) hx hb dL_count_13 (by decide) ?_
        exact m_iretX hx hb hr hlk V (Nat.le_of_ble_eq_true rfl) (Nat.le_of_ble_eq_true rfl) rfl dL_count_14
    · replace h := ite_f he0 h
      exact nomatch h
def f_L_foresee (N : Nat) (σ τ : mSt) (o : Nat → Int64) (a1 : Int32) (a2 : Int32) : Option (Int32 × mSt × mSt × (Nat → Int64)) := (f_X5_foresee N σ τ a1 a2).bind fun q1 => oCase q1.1 (fun r1 => some (0, q1.2.1, q1.2.2, vp_updL o (0 : Int32).toNatClampNeg r1.toInt64)) (fun e1 => if e1 = "java/lang/IllegalArgumentException" then some (1, q1.2.1, q1.2.2, o) else if e1 = "java/lang/IndexOutOfBoundsException" then some (2, q1.2.1, q1.2.2, o) else if e1 = "java/lang/IllegalStateException" then some (3, q1.2.1, q1.2.2, o) else  none)
set_option maxHeartbeats 4000000 in
set_option maxRecDepth 100000 in
theorem c_L_foresee {l : Launch} {D : va_G} {y : Nat → ClassId} {ad : Nat → Nat} {N : Nat} {σ τ : mSt} {o : Nat → Int64} {a1 : Int32} {a2 : Int32} {q : Int32 × mSt × mSt × (Nat → Int64)} (hstk : l.stackTraces = false) (h : f_L_foresee N σ τ o a1 a2 = some q) : mC l yL_foresee wsL_foresee { frames := 11, cells := 1, slots := 6, locals := 197 } D y 162 ad mZ2 (mHw y ad σ τ o) [.ref (ad 160), .int a1, .int a2, .ref (ad 161)] (some (.int q.1)) (mHw y ad q.2.1 q.2.2.1 q.2.2.2) 1 6 := by
  refine mCX_plain (m_startW (cc := cL_foresee) (maxL := 5) (ret := (some .int)) (by decide) rfl (Nat.le_of_ble_eq_true rfl) (fun p e s m args below meth c ls hB htab V Z hl => ?_))
  obtain ⟨hx, hb, hml, hown, hts, hr, hlk⟩ := id hB
  have hl : lv_has ls 5 [(0, .ref (ad 160)), (1, .int a1), (2, .int a2), (3, .ref (ad 161))] := hl
  rw [f_L_foresee] at h
  refine lv_aload_n hx hb dL_foresee_0 rfl (lv_at hl 3 rfl) ?_
  refine lv_iconst (v := 0) hx hb dL_foresee_1 (by decide) ?_
  refine lv_aload_n hx hb dL_foresee_2 rfl (lv_at hl 0 rfl) ?_
  refine lv_iload_n hx hb dL_foresee_3 rfl (lv_at hl 1 rfl) ?_
  refine lv_iload_n hx hb dL_foresee_4 rfl (lv_at hl 2 rfl) ?_
  obtain ⟨q1, hq1, h⟩ := bd_s h
  cases ho1 : q1.1 with
  | inl r1 =>
    replace h := oCase_l ho1 h
    obtain rfl := Option.some.inj h
    refine kHB (As := [.int a1, .int a2]) (rest := [.int 0, .ref (ad 161)]) ⟨hx, hb, hml, hown, hts⟩ Z.1 V (mOi_plain ho1 (c_X5_foresee (l := l) (D := D) (y := y) (ad := ad) hstk hq1)) (cwV 2 hts gL_foresee_X5_foresee rfl rfl rfl (by decide +kernel) ⟨Nat.le_of_ble_eq_true rfl, Nat.le_of_ble_eq_true rfl⟩) (by omega) ((mHw_0 (by omega)).trans (mB_b y ad _ _)) rfl rfl hl.1 rfl (Nat.le_of_ble_eq_true rfl) ⟨Nat.zero_le _, Nat.zero_le _⟩ rfl dL_foresee_5 (fun H locs V => ?_)
    refine lv_i2l hx hb dL_foresee_8 rfl ?_
    refine oH_st hx hb V (by decide +kernel) dL_foresee_9 (fun H locs V => ?_)
    refine lv_goto (tgt := 25) hx hb dL_foresee_10 (by decide) ?_
    refine lv_iconst (v := 0) hx hb dL_foresee_25 (by decide) ?_
    exact m_iretX hx hb hr hlk V (Nat.zero_le _) (Nat.zero_le _) rfl dL_foresee_26
  | inr e1 =>
    replace h := oCase_r ho1 h
    by_cases he0 : e1 = "java/lang/IllegalArgumentException"
    · replace h := ite_t he0 h
      obtain rfl := Option.some.inj h
      subst he0
      refine kHBx (As := [.int a1, .int a2]) (rest := [.int 0, .ref (ad 161)]) ⟨hx, hb, hml, hown, hts⟩ Z.1 V (mOi_throw ho1 (c_X5_foresee (l := l) (D := D) (y := y) (ad := ad) hstk hq1)) (cwV 2 hts gL_foresee_X5_foresee rfl rfl rfl (by decide +kernel) ⟨Nat.le_of_ble_eq_true rfl, Nat.le_of_ble_eq_true rfl⟩) (by omega) ((mHw_0 (by omega)).trans (mB_b y ad _ _)) rfl rfl hl.1 rfl (Nat.le_of_ble_eq_true rfl) ⟨Nat.le_of_ble_eq_true rfl, Nat.le_of_ble_eq_true rfl⟩ dL_foresee_5 (fun ce q9 H locs V hce hcv hcl => ?_)
      refine vx_catch (name := "java/lang/IllegalArgumentException") hown [] ⟨0, 10, 13, 13⟩ [⟨0, 10, 17, 21⟩, ⟨0, 10, 21, 15⟩] (by rw [htab]; rfl) ?_ (by decide) (by decide) (va_Nw.use rfl (Z.2.2 _ (List.mem_of_getElem? (i := 0) rfl))) (va_Nw.use (mZw_tab _ (List.mem_of_getElem? (i := 1) rfl)) (Z.1.2.1 _ (List.mem_of_getElem? (i := 1) rfl))) hce hcv hcl ?_
      · intro z9 hz9
        exact absurd hz9 List.not_mem_nil
      · refine lv_astore (lv' := [(4, .ref q9), (0, .ref (ad 160)), (1, .int a1), (2, .int a2), (3, .ref (ad 161))]) hx hb dL_foresee_13 hl (by decide) rfl (fun ls hl => ?_)
        refine lv_iconst (v := 1) hx hb dL_foresee_15 (by decide) ?_
        exact m_iretX hx hb hr hlk V (Nat.le_of_ble_eq_true rfl) (Nat.le_of_ble_eq_true rfl) rfl dL_foresee_16
    · replace h := ite_f he0 h
      by_cases he1 : e1 = "java/lang/IndexOutOfBoundsException"
      · replace h := ite_t he1 h
        obtain rfl := Option.some.inj h
        subst he1
        refine kHBx (As := [.int a1, .int a2]) (rest := [.int 0, .ref (ad 161)]) ⟨hx, hb, hml, hown, hts⟩ Z.1 V (mOi_throw ho1 (c_X5_foresee (l := l) (D := D) (y := y) (ad := ad) hstk hq1)) (cwV 2 hts gL_foresee_X5_foresee rfl rfl rfl (by decide +kernel) ⟨Nat.le_of_ble_eq_true rfl, Nat.le_of_ble_eq_true rfl⟩) (by omega) ((mHw_0 (by omega)).trans (mB_b y ad _ _)) rfl rfl hl.1 rfl (Nat.le_of_ble_eq_true rfl) ⟨Nat.le_of_ble_eq_true rfl, Nat.le_of_ble_eq_true rfl⟩ dL_foresee_5 (fun ce q9 H locs V hce hcv hcl => ?_)
        refine vx_catch (name := "java/lang/IndexOutOfBoundsException") hown [⟨0, 10, 13, 13⟩] ⟨0, 10, 17, 21⟩ [⟨0, 10, 21, 15⟩] (by rw [htab]; rfl) ?_ (by decide) (by decide) (va_Nw.use rfl (Z.2.2 _ (List.mem_of_getElem? (i := 2) rfl))) (va_Nw.use (mZw_tab _ (List.mem_of_getElem? (i := 0) rfl)) (Z.1.2.1 _ (List.mem_of_getElem? (i := 0) rfl))) hce hcv hcl ?_
        · intro z9 hz9
          rcases List.mem_cons.mp hz9 with rfl | hz9
          · exact Or.inr ⟨by decide, _, va_Nw.use rfl (Z.2.2 _ (List.mem_of_getElem? (i := 0) rfl)), Z.2.1 _ (List.mem_of_getElem? (i := 3) rfl)⟩
          exact absurd hz9 List.not_mem_nil
        · refine lv_astore (lv' := [(4, .ref q9), (0, .ref (ad 160)), (1, .int a1), (2, .int a2), (3, .ref (ad 161))]) hx hb dL_foresee_17 hl (by decide) rfl (fun ls hl => ?_)
          refine lv_iconst (v := 2) hx hb dL_foresee_19 (by decide) ?_
          exact m_iretX hx hb hr hlk V (Nat.le_of_ble_eq_true rfl) (Nat.le_of_ble_eq_true rfl) rfl dL_foresee_20
      · replace h := ite_f he1 h
        by_cases he2 : e1 = "java/lang/IllegalStateException"
        · replace h := ite_t he2 h
          obtain rfl := Option.some.inj h
          subst he2
          refine kHBx (As := [.int a1, .int a2]) (rest := [.int 0, .ref (ad 161)]) ⟨hx, hb, hml, hown, hts⟩ Z.1 V (mOi_throw ho1 (c_X5_foresee (l := l) (D := D) (y := y) (ad := ad) hstk hq1)) (cwV 2 hts gL_foresee_X5_foresee rfl rfl rfl (by decide +kernel) ⟨Nat.le_of_ble_eq_true rfl, Nat.le_of_ble_eq_true rfl⟩) (by omega) ((mHw_0 (by omega)).trans (mB_b y ad _ _)) rfl rfl hl.1 rfl (Nat.le_of_ble_eq_true rfl) ⟨Nat.le_of_ble_eq_true rfl, Nat.le_of_ble_eq_true rfl⟩ dL_foresee_5 (fun ce q9 H locs V hce hcv hcl => ?_)
          refine vx_catch (name := "java/lang/IllegalStateException") hown [⟨0, 10, 13, 13⟩, ⟨0, 10, 17, 21⟩] ⟨0, 10, 21, 15⟩ [] (by rw [htab]; rfl) ?_ (by decide) (by decide) (va_Nw.use rfl (Z.2.2 _ (List.mem_of_getElem? (i := 1) rfl))) (va_Nw.use (mZw_tab _ (List.mem_of_getElem? (i := 2) rfl)) (Z.1.2.1 _ (List.mem_of_getElem? (i := 2) rfl))) hce hcv hcl ?_
          · intro z9 hz9
            rcases List.mem_cons.mp hz9 with rfl | hz9
            · exact Or.inr ⟨by decide, _, va_Nw.use rfl (Z.2.2 _ (List.mem_of_getElem? (i := 0) rfl)), Z.2.1 _ (List.mem_of_getElem? (i := 2) rfl)⟩
            rcases List.mem_cons.mp hz9 with rfl | hz9
            · exact Or.inr ⟨by decide, _, va_Nw.use rfl (Z.2.2 _ (List.mem_of_getElem? (i := 2) rfl)), Z.2.1 _ (List.mem_of_getElem? (i := 1) rfl)⟩
            exact absurd hz9 List.not_mem_nil
          · refine lv_astore (lv' := [(4, .ref q9), (0, .ref (ad 160)), (1, .int a1), (2, .int a2), (3, .ref (ad 161))]) hx hb dL_foresee_21 hl (by decide) rfl (fun ls hl => ?_)
            refine lv_iconst (v := 3) hx hb dL_foresee_23 (by decide) ?_
            exact m_iretX hx hb hr hlk V (Nat.le_of_ble_eq_true rfl) (Nat.le_of_ble_eq_true rfl) rfl dL_foresee_24
        · replace h := ite_f he2 h
          exact nomatch h
def f_L_leader (N : Nat) (σ τ : mSt) (o : Nat → Int64) (a1 : Int32) : Option (Int32 × mSt × mSt × (Nat → Int64)) := (f_X5_leader N σ τ a1).bind fun q1 => oCase q1.1 (fun r1 => some (0, q1.2.1, q1.2.2, vp_updL o (0 : Int32).toNatClampNeg r1.toInt64)) (fun e1 => if e1 = "java/lang/IndexOutOfBoundsException" then some (1, q1.2.1, q1.2.2, o) else  none)
set_option maxHeartbeats 4000000 in
set_option maxRecDepth 100000 in
theorem c_L_leader {l : Launch} {D : va_G} {y : Nat → ClassId} {ad : Nat → Nat} {N : Nat} {σ τ : mSt} {o : Nat → Int64} {a1 : Int32} {q : Int32 × mSt × mSt × (Nat → Int64)} (hstk : l.stackTraces = false) (h : f_L_leader N σ τ o a1 = some q) : mC l yL_leader wsL_leader { frames := 9, cells := 1, slots := 6, locals := 151 } D y 162 ad mZ2 (mHw y ad σ τ o) [.ref (ad 160), .int a1, .ref (ad 161)] (some (.int q.1)) (mHw y ad q.2.1 q.2.2.1 q.2.2.2) 1 6 := by
  refine mCX_plain (m_startW (cc := cL_leader) (maxL := 4) (ret := (some .int)) (by decide) rfl (Nat.le_of_ble_eq_true rfl) (fun p e s m args below meth c ls hB htab V Z hl => ?_))
  obtain ⟨hx, hb, hml, hown, hts, hr, hlk⟩ := id hB
  have hl : lv_has ls 4 [(0, .ref (ad 160)), (1, .int a1), (2, .ref (ad 161))] := hl
  rw [f_L_leader] at h
  refine lv_aload_n hx hb dL_leader_0 rfl (lv_at hl 2 rfl) ?_
  refine lv_iconst (v := 0) hx hb dL_leader_1 (by decide) ?_
  refine lv_aload_n hx hb dL_leader_2 rfl (lv_at hl 0 rfl) ?_
  refine lv_iload_n hx hb dL_leader_3 rfl (lv_at hl 1 rfl) ?_
  obtain ⟨q1, hq1, h⟩ := bd_s h
  cases ho1 : q1.1 with
  | inl r1 =>
    replace h := oCase_l ho1 h
    obtain rfl := Option.some.inj h
    refine kHB (As := [.int a1]) (rest := [.int 0, .ref (ad 161)]) ⟨hx, hb, hml, hown, hts⟩ Z.1 V (mOi_plain ho1 (c_X5_leader (l := l) (D := D) (y := y) (ad := ad) hstk hq1)) (cwV 1 hts gL_leader_X5_leader rfl rfl rfl (by decide +kernel) ⟨Nat.le_of_ble_eq_true rfl, Nat.le_of_ble_eq_true rfl⟩) (by omega) ((mHw_0 (by omega)).trans (mB_b y ad _ _)) rfl rfl hl.1 rfl (Nat.le_of_ble_eq_true rfl) ⟨Nat.zero_le _, Nat.zero_le _⟩ rfl dL_leader_4 (fun H locs V => ?_)
    refine lv_i2l hx hb dL_leader_7 rfl ?_
    refine oH_st hx hb V (by decide +kernel) dL_leader_8 (fun H locs V => ?_)
    refine lv_goto (tgt := 15) hx hb dL_leader_9 (by decide) ?_
    refine lv_iconst (v := 0) hx hb dL_leader_15 (by decide) ?_
    exact m_iretX hx hb hr hlk V (Nat.zero_le _) (Nat.zero_le _) rfl dL_leader_16
  | inr e1 =>
    replace h := oCase_r ho1 h
    by_cases he0 : e1 = "java/lang/IndexOutOfBoundsException"
    · replace h := ite_t he0 h
      obtain rfl := Option.some.inj h
      subst he0
      refine kHBx (As := [.int a1]) (rest := [.int 0, .ref (ad 161)]) ⟨hx, hb, hml, hown, hts⟩ Z.1 V (mOi_throw ho1 (c_X5_leader (l := l) (D := D) (y := y) (ad := ad) hstk hq1)) (cwV 1 hts gL_leader_X5_leader rfl rfl rfl (by decide +kernel) ⟨Nat.le_of_ble_eq_true rfl, Nat.le_of_ble_eq_true rfl⟩) (by omega) ((mHw_0 (by omega)).trans (mB_b y ad _ _)) rfl rfl hl.1 rfl (Nat.le_of_ble_eq_true rfl) ⟨Nat.le_of_ble_eq_true rfl, Nat.le_of_ble_eq_true rfl⟩ dL_leader_4 (fun ce q9 H locs V hce hcv hcl => ?_)
      refine vx_catch (name := "java/lang/IndexOutOfBoundsException") hown [] ⟨0, 9, 12, 21⟩ [] (by rw [htab]; rfl) ?_ (by decide) (by decide) (va_Nw.use rfl (Z.2.2 _ (List.mem_of_getElem? (i := 2) rfl))) (va_Nw.use (mZw_tab _ (List.mem_of_getElem? (i := 0) rfl)) (Z.1.2.1 _ (List.mem_of_getElem? (i := 0) rfl))) hce hcv hcl ?_
      · intro z9 hz9
        exact absurd hz9 List.not_mem_nil
      · refine lv_astore_n (lv' := [(3, .ref q9), (0, .ref (ad 160)), (1, .int a1), (2, .ref (ad 161))]) hx hb dL_leader_12 rfl hl (by decide) rfl (fun ls hl => ?_)
        refine lv_iconst (v := 1) hx hb dL_leader_13 (by decide) ?_
        exact m_iretX hx hb hr hlk V (Nat.le_of_ble_eq_true rfl) (Nat.le_of_ble_eq_true rfl) rfl dL_leader_14
    · replace h := ite_f he0 h
      exact nomatch h
def f_L_needs (N : Nat) (σ τ : mSt) (o : Nat → Int64) (a1 : Int32) (a2 : Int32) : Option (Int32 × mSt × mSt × (Nat → Int64)) := (f_X5_needs N σ τ a1 a2).bind fun q1 => oCase q1.1 (fun r1 => some (0, q1.2.1, q1.2.2, vp_updL o (0 : Int32).toNatClampNeg r1.toInt64)) (fun e1 => if e1 = "java/lang/IndexOutOfBoundsException" then some (1, q1.2.1, q1.2.2, o) else if e1 = "java/lang/IllegalArgumentException" then some (2, q1.2.1, q1.2.2, o) else  none)
set_option maxHeartbeats 4000000 in
set_option maxRecDepth 100000 in
theorem c_L_needs {l : Launch} {D : va_G} {y : Nat → ClassId} {ad : Nat → Nat} {N : Nat} {σ τ : mSt} {o : Nat → Int64} {a1 : Int32} {a2 : Int32} {q : Int32 × mSt × mSt × (Nat → Int64)} (hstk : l.stackTraces = false) (h : f_L_needs N σ τ o a1 a2 = some q) : mC l yL_needs wsL_needs { frames := 7, cells := 1, slots := 6, locals := 109 } D y 162 ad mZ2 (mHw y ad σ τ o) [.ref (ad 160), .int a1, .int a2, .ref (ad 161)] (some (.int q.1)) (mHw y ad q.2.1 q.2.2.1 q.2.2.2) 1 6 := by
  refine mCX_plain (m_startW (cc := cL_needs) (maxL := 5) (ret := (some .int)) (by decide) rfl (Nat.le_of_ble_eq_true rfl) (fun p e s m args below meth c ls hB htab V Z hl => ?_))
  obtain ⟨hx, hb, hml, hown, hts, hr, hlk⟩ := id hB
  have hl : lv_has ls 5 [(0, .ref (ad 160)), (1, .int a1), (2, .int a2), (3, .ref (ad 161))] := hl
  rw [f_L_needs] at h
  refine lv_aload_n hx hb dL_needs_0 rfl (lv_at hl 3 rfl) ?_
  refine lv_iconst (v := 0) hx hb dL_needs_1 (by decide) ?_
  refine lv_aload_n hx hb dL_needs_2 rfl (lv_at hl 0 rfl) ?_
  refine lv_iload_n hx hb dL_needs_3 rfl (lv_at hl 1 rfl) ?_
  refine lv_iload_n hx hb dL_needs_4 rfl (lv_at hl 2 rfl) ?_
  obtain ⟨q1, hq1, h⟩ := bd_s h
  cases ho1 : q1.1 with
  | inl r1 =>
    replace h := oCase_l ho1 h
    obtain rfl := Option.some.inj h
    refine kHB (As := [.int a1, .int a2]) (rest := [.int 0, .ref (ad 161)]) ⟨hx, hb, hml, hown, hts⟩ Z.1 V (mOi_plain ho1 (c_X5_needs (l := l) (D := D) (y := y) (ad := ad) hstk hq1)) (cwV 2 hts gL_needs_X5_needs rfl rfl rfl (by decide +kernel) ⟨Nat.le_of_ble_eq_true rfl, Nat.le_of_ble_eq_true rfl⟩) (by omega) ((mHw_0 (by omega)).trans (mB_b y ad _ _)) rfl rfl hl.1 rfl (Nat.le_of_ble_eq_true rfl) ⟨Nat.zero_le _, Nat.zero_le _⟩ rfl dL_needs_5 (fun H locs V => ?_)
    refine lv_i2l hx hb dL_needs_8 rfl ?_
    refine oH_st hx hb V (by decide +kernel) dL_needs_9 (fun H locs V => ?_)
    refine lv_goto (tgt := 21) hx hb dL_needs_10 (by decide) ?_
    refine lv_iconst (v := 0) hx hb dL_needs_21 (by decide) ?_
    exact m_iretX hx hb hr hlk V (Nat.zero_le _) (Nat.zero_le _) rfl dL_needs_22
  | inr e1 =>
    replace h := oCase_r ho1 h
    by_cases he0 : e1 = "java/lang/IndexOutOfBoundsException"
    · replace h := ite_t he0 h
      obtain rfl := Option.some.inj h
      subst he0
      refine kHBx (As := [.int a1, .int a2]) (rest := [.int 0, .ref (ad 161)]) ⟨hx, hb, hml, hown, hts⟩ Z.1 V (mOi_throw ho1 (c_X5_needs (l := l) (D := D) (y := y) (ad := ad) hstk hq1)) (cwV 2 hts gL_needs_X5_needs rfl rfl rfl (by decide +kernel) ⟨Nat.le_of_ble_eq_true rfl, Nat.le_of_ble_eq_true rfl⟩) (by omega) ((mHw_0 (by omega)).trans (mB_b y ad _ _)) rfl rfl hl.1 rfl (Nat.le_of_ble_eq_true rfl) ⟨Nat.le_of_ble_eq_true rfl, Nat.le_of_ble_eq_true rfl⟩ dL_needs_5 (fun ce q9 H locs V hce hcv hcl => ?_)
      refine vx_catch (name := "java/lang/IndexOutOfBoundsException") hown [] ⟨0, 10, 13, 21⟩ [⟨0, 10, 17, 13⟩] (by rw [htab]; rfl) ?_ (by decide) (by decide) (va_Nw.use rfl (Z.2.2 _ (List.mem_of_getElem? (i := 2) rfl))) (va_Nw.use (mZw_tab _ (List.mem_of_getElem? (i := 0) rfl)) (Z.1.2.1 _ (List.mem_of_getElem? (i := 0) rfl))) hce hcv hcl ?_
      · intro z9 hz9
        exact absurd hz9 List.not_mem_nil
      · refine lv_astore (lv' := [(4, .ref q9), (0, .ref (ad 160)), (1, .int a1), (2, .int a2), (3, .ref (ad 161))]) hx hb dL_needs_13 hl (by decide) rfl (fun ls hl => ?_)
        refine lv_iconst (v := 1) hx hb dL_needs_15 (by decide) ?_
        exact m_iretX hx hb hr hlk V (Nat.le_of_ble_eq_true rfl) (Nat.le_of_ble_eq_true rfl) rfl dL_needs_16
    · replace h := ite_f he0 h
      by_cases he1 : e1 = "java/lang/IllegalArgumentException"
      · replace h := ite_t he1 h
        obtain rfl := Option.some.inj h
        subst he1
        refine kHBx (As := [.int a1, .int a2]) (rest := [.int 0, .ref (ad 161)]) ⟨hx, hb, hml, hown, hts⟩ Z.1 V (mOi_throw ho1 (c_X5_needs (l := l) (D := D) (y := y) (ad := ad) hstk hq1)) (cwV 2 hts gL_needs_X5_needs rfl rfl rfl (by decide +kernel) ⟨Nat.le_of_ble_eq_true rfl, Nat.le_of_ble_eq_true rfl⟩) (by omega) ((mHw_0 (by omega)).trans (mB_b y ad _ _)) rfl rfl hl.1 rfl (Nat.le_of_ble_eq_true rfl) ⟨Nat.le_of_ble_eq_true rfl, Nat.le_of_ble_eq_true rfl⟩ dL_needs_5 (fun ce q9 H locs V hce hcv hcl => ?_)
        refine vx_catch (name := "java/lang/IllegalArgumentException") hown [⟨0, 10, 13, 21⟩] ⟨0, 10, 17, 13⟩ [] (by rw [htab]; rfl) ?_ (by decide) (by decide) (va_Nw.use rfl (Z.2.2 _ (List.mem_of_getElem? (i := 0) rfl))) (va_Nw.use (mZw_tab _ (List.mem_of_getElem? (i := 1) rfl)) (Z.1.2.1 _ (List.mem_of_getElem? (i := 1) rfl))) hce hcv hcl ?_
        · intro z9 hz9
          rcases List.mem_cons.mp hz9 with rfl | hz9
          · exact Or.inr ⟨by decide, _, va_Nw.use rfl (Z.2.2 _ (List.mem_of_getElem? (i := 2) rfl)), Z.2.1 _ (List.mem_of_getElem? (i := 0) rfl)⟩
          exact absurd hz9 List.not_mem_nil
        · refine lv_astore (lv' := [(4, .ref q9), (0, .ref (ad 160)), (1, .int a1), (2, .int a2), (3, .ref (ad 161))]) hx hb dL_needs_17 hl (by decide) rfl (fun ls hl => ?_)
          refine lv_iconst (v := 2) hx hb dL_needs_19 (by decide) ?_
          exact m_iretX hx hb hr hlk V (Nat.le_of_ble_eq_true rfl) (Nat.le_of_ble_eq_true rfl) rfl dL_needs_20
      · replace h := ite_f he1 h
        exact nomatch h
