-- X7_thrown
def f_X7_thrown (N : Nat) (th : Int32) (ρ α : mSt)  : Option (Int32 × Int32 × mSt × mSt) := some (th, th, ρ, α)
set_option maxHeartbeats 4000000 in
set_option maxRecDepth 100000 in
theorem c_X7_thrown {l : Launch} {D : va_G} {y : Nat → ClassId} {ad : Nat → Nat} {N : Nat} {th : Int32} {ρ α : mSt}  {q : Int32 × Int32 × mSt × mSt} (h : f_X7_thrown N th ρ α = some q) : mC l yX7_thrown wsX7_thrown { frames := 0, cells := 0, slots := 0, locals := 0 } D y 43 ad mN (mM y ad th ρ α) [.ref (ad 42)] (some (.int q.1)) (mM y ad q.2.1 q.2.2.1 q.2.2.2) 0 0 := by
  refine m_start (cc := cX7_thrown) (maxL := 1) (ret := (some .int)) (by decide) rfl (Nat.le_of_ble_eq_true rfl) (fun p e s m args below meth c ls hB _ V Z hl => ?_)
  obtain ⟨hx, hb, hml, hown, hts, hr, hlk⟩ := id hB
  have hl : lv_has ls 1 [(0, .ref (ad 42))] := hl
  rw [f_X7_thrown] at h
  refine lv_aload_n hx hb dX7_thrown_0 rfl (lv_at hl 0 rfl) ?_
  refine gM_th hx hb hts hown (fun _ h => List.mem_cons_of_mem _ (List.mem_append_right _ h)) V (hts _ (List.mem_of_getElem? (i := 1) rfl)) dX7_thrown_1 ?_
  obtain rfl := Option.some.inj h
  exact m_iret hx hb hr hlk V (Nat.zero_le _) (Nat.zero_le _) dX7_thrown_4
-- X7_no
def f_X7_no (N : Nat) (th : Int32) (ρ α : mSt) (a1 : Int32) : Option (Int32 × Int32 × mSt × mSt) := some (0, a1, ρ, α)
set_option maxHeartbeats 4000000 in
set_option maxRecDepth 100000 in
theorem c_X7_no {l : Launch} {D : va_G} {y : Nat → ClassId} {ad : Nat → Nat} {N : Nat} {th : Int32} {ρ α : mSt} {a1 : Int32} {q : Int32 × Int32 × mSt × mSt} (h : f_X7_no N th ρ α a1 = some q) : mC l yX7_no wsX7_no { frames := 0, cells := 0, slots := 0, locals := 0 } D y 43 ad mN (mM y ad th ρ α) [.ref (ad 42), .int a1] (some (.int q.1)) (mM y ad q.2.1 q.2.2.1 q.2.2.2) 0 0 := by
  refine m_start (cc := cX7_no) (maxL := 2) (ret := (some .int)) (by decide) rfl (Nat.le_of_ble_eq_true rfl) (fun p e s m args below meth c ls hB _ V Z hl => ?_)
  obtain ⟨hx, hb, hml, hown, hts, hr, hlk⟩ := id hB
  have hl : lv_has ls 2 [(0, .ref (ad 42)), (1, .int a1)] := hl
  rw [f_X7_no] at h
  refine lv_aload_n hx hb dX7_no_0 rfl (lv_at hl 0 rfl) ?_
  refine lv_iload_n hx hb dX7_no_1 rfl (lv_at hl 1 rfl) ?_
  refine pM_th hx hb hts hown (fun _ h => List.mem_cons_of_mem _ (List.mem_append_right _ h)) V (hts _ (List.mem_of_getElem? (i := 1) rfl)) dX7_no_2 (fun H locs V => ?_)
  refine lv_iconst (v := 0) hx hb dX7_no_5 (by decide) ?_
  obtain rfl := Option.some.inj h
  exact m_iret hx hb hr hlk V (Nat.zero_le _) (Nat.zero_le _) dX7_no_6
-- X7_isIn
def f_X7_isIn (N : Nat) (th : Int32) (ρ α : mSt) (a1 : Int32) (a2 : Int32) (a3 : Int32) : Option (Int32 × Int32 × mSt × mSt) := if a1 < a2 then some (0, th, ρ, α) else if a3 < a1 then some (0, th, ρ, α) else some (1, th, ρ, α)
set_option maxHeartbeats 4000000 in
set_option maxRecDepth 100000 in
theorem c_X7_isIn {l : Launch} {D : va_G} {y : Nat → ClassId} {ad : Nat → Nat} {N : Nat} {th : Int32} {ρ α : mSt} {a1 : Int32} {a2 : Int32} {a3 : Int32} {q : Int32 × Int32 × mSt × mSt} (h : f_X7_isIn N th ρ α a1 a2 a3 = some q) : mC l yX7_isIn wsX7_isIn { frames := 0, cells := 0, slots := 0, locals := 0 } D y 43 ad mN (mM y ad th ρ α) [.int a1, .int a2, .int a3] (some (.int q.1)) (mM y ad q.2.1 q.2.2.1 q.2.2.2) 0 0 := by
  refine m_start (cc := cX7_isIn) (maxL := 3) (ret := (some .boolean)) (by decide) rfl (Nat.le_of_ble_eq_true rfl) (fun p e s m args below meth c ls hB _ V Z hl => ?_)
  obtain ⟨hx, hb, hml, hown, hts, hr, hlk⟩ := id hB
  have hl : lv_has ls 3 [(0, .int a1), (1, .int a2), (2, .int a3)] := hl
  rw [f_X7_isIn] at h
  refine lv_iload_n hx hb dX7_isIn_0 rfl (lv_at hl 0 rfl) ?_
  refine lv_iload_n hx hb dX7_isIn_1 rfl (lv_at hl 1 rfl) ?_
  refine lv_icmp_lt (tgt := 14) hx hb dX7_isIn_2 (by decide) (fun hc3 => ?_) (fun hc3 => ?_)
  · replace h := ite_t hc3 h
    refine lv_iconst (v := 0) hx hb dX7_isIn_14 (by decide) ?_
    obtain rfl := Option.some.inj h
    exact m_zret hx hb hr hlk V (Or.inl rfl) (Nat.zero_le _) (Nat.zero_le _) dX7_isIn_15
  · replace h := ite_f hc3 h
    refine lv_iload_n hx hb dX7_isIn_5 rfl (lv_at hl 0 rfl) ?_
    refine lv_iload_n hx hb dX7_isIn_6 rfl (lv_at hl 2 rfl) ?_
    refine lv_icmp_gt (tgt := 14) hx hb dX7_isIn_7 (by decide) (fun hc4 => ?_) (fun hc4 => ?_)
    · replace h := ite_t hc4 h
      refine lv_iconst (v := 0) hx hb dX7_isIn_14 (by decide) ?_
      obtain rfl := Option.some.inj h
      exact m_zret hx hb hr hlk V (Or.inl rfl) (Nat.zero_le _) (Nat.zero_le _) dX7_isIn_15
    · replace h := ite_f hc4 h
      refine lv_iconst (v := 1) hx hb dX7_isIn_10 (by decide) ?_
      refine lv_goto (tgt := 15) hx hb dX7_isIn_11 (by decide) ?_
      obtain rfl := Option.some.inj h
      exact m_zret hx hb hr hlk V (Or.inr rfl) (Nat.zero_le _) (Nat.zero_le _) dX7_isIn_15
-- X7_addPlayer
def f_X7_addPlayer (N : Nat) (th : Int32) (ρ α : mSt) (a1 : Int32) : Option (Int32 × Int32 × mSt × mSt) := (f_X7_isIn N 0 ρ α a1 0 1000000).bind fun q7 => if q7.1 = 0 then (f_X7_no N q7.2.1 q7.2.2.1 q7.2.2.2 1).bind fun q12 => some (q12.1, q12.2.1, q12.2.2.1, q12.2.2.2) else if (q7.2.2.1 21 0) = 8 then (f_X7_no N q7.2.1 q7.2.2.1 q7.2.2.2 2).bind fun q11 => some (q11.1, q11.2.1, q11.2.2.1, q11.2.2.2) else if mIn (q7.2.2.1 21 0) 8 then some (((mUp (mUp q7.2.2.1 0 (q7.2.2.1 21 0).toNatClampNeg a1) 21 0 (((mUp q7.2.2.1 0 (q7.2.2.1 21 0).toNatClampNeg a1) 21 0) + 1)) 21 0) - 1, q7.2.1, (mUp (mUp q7.2.2.1 0 (q7.2.2.1 21 0).toNatClampNeg a1) 21 0 (((mUp q7.2.2.1 0 (q7.2.2.1 21 0).toNatClampNeg a1) 21 0) + 1)), q7.2.2.2) else none
set_option maxHeartbeats 4000000 in
set_option maxRecDepth 100000 in
theorem c_X7_addPlayer {l : Launch} {D : va_G} {y : Nat → ClassId} {ad : Nat → Nat} {N : Nat} {th : Int32} {ρ α : mSt} {a1 : Int32} {q : Int32 × Int32 × mSt × mSt} (h : f_X7_addPlayer N th ρ α a1 = some q) : mC l yX7_addPlayer wsX7_addPlayer { frames := 1, cells := 0, slots := 0, locals := 22 } D y 43 ad mN (mM y ad th ρ α) [.ref (ad 42), .int a1] (some (.int q.1)) (mM y ad q.2.1 q.2.2.1 q.2.2.2) 0 0 := by
  refine m_start (cc := cX7_addPlayer) (maxL := 2) (ret := (some .int)) (by decide) rfl (Nat.le_of_ble_eq_true rfl) (fun p e s m args below meth c ls hB _ V Z hl => ?_)
  obtain ⟨hx, hb, hml, hown, hts, hr, hlk⟩ := id hB
  have hl : lv_has ls 2 [(0, .ref (ad 42)), (1, .int a1)] := hl
  rw [f_X7_addPlayer] at h
  refine lv_aload_n hx hb dX7_addPlayer_0 rfl (lv_at hl 0 rfl) ?_
  refine lv_iconst (v := 0) hx hb dX7_addPlayer_1 (by decide) ?_
  refine pM_th hx hb hts hown (fun _ h => List.mem_cons_of_mem _ (List.mem_append_left _ (List.mem_append_right _ h))) V (hts _ (List.mem_of_getElem? (i := 1) rfl)) dX7_addPlayer_2 (fun H locs V => ?_)
  refine lv_iload_n hx hb dX7_addPlayer_5 rfl (lv_at hl 1 rfl) ?_
  refine lv_iconst (v := 0) hx hb dX7_addPlayer_6 (by decide) ?_
  refine lv_ldc (v := 1000000) hx hb hown (hts _ (List.mem_of_getElem? (i := 2) rfl)) dX7_addPlayer_7 ?_
  obtain ⟨q7, hq7, h⟩ := bd_s h
  refine kMMs (As := [.int a1, .int 0, .int 1000000]) (rest := []) ⟨hx, hb, hml, hown, hts⟩ Z V (c_X7_isIn (l := l) (D := D) (y := y) (ad := ad) hq7) (va_cwS 3 hts gX7_addPlayer_X7_isIn rfl rfl rfl (by decide +kernel) ⟨Nat.le_of_ble_eq_true rfl, Nat.le_of_ble_eq_true rfl⟩) rfl hl.1 rfl (Nat.le_of_ble_eq_true rfl) ⟨Nat.zero_le _, Nat.zero_le _⟩ rfl dX7_addPlayer_9 (fun H locs V => ?_)
  refine lv_if_ne (tgt := 21) hx hb dX7_addPlayer_12 (by decide) (fun hc8 => ?_) (fun hc8 => ?_)
  · replace h := ite_f hc8 h
    refine lv_aload_n hx hb dX7_addPlayer_21 rfl (lv_at hl 0 rfl) ?_
    refine rM_s hx hb hts hown (fun _ h => List.mem_cons_of_mem _ (List.mem_append_left _ (List.mem_append_right _ h))) V (hts _ (List.mem_of_getElem? (i := 3) rfl)) dX7_addPlayer_22 ?_
    refine gM_T hx hb hts hown (fun _ h => List.mem_cons_of_mem _ (List.mem_append_right _ h)) V 1 (by decide) (mN_use (q := (32, "players", "I")) Z 0 rfl) (v := .int (q7.2.2.1 21 0)) rfl dX7_addPlayer_25 ?_
    refine lv_bipush (v := 8) hx hb dX7_addPlayer_28 (by decide) ?_
    refine lv_icmp_ne (tgt := 39) hx hb dX7_addPlayer_30 (by decide) (fun hc9 => ?_) (fun hc9 => ?_)
    · replace h := ite_f hc9 h
      refine lv_aload_n hx hb dX7_addPlayer_39 rfl (lv_at hl 0 rfl) ?_
      refine rM_s hx hb hts hown (fun _ h => List.mem_cons_of_mem _ (List.mem_append_left _ (List.mem_append_right _ h))) V (hts _ (List.mem_of_getElem? (i := 3) rfl)) dX7_addPlayer_40 ?_
      refine gM_T hx hb hts hown (fun _ h => List.mem_cons_of_mem _ (List.mem_append_right _ h)) V 2 (by decide) (mN_use (q := (35, "coins", "[I")) Z 1 rfl) (v := .ref (ad 1)) rfl dX7_addPlayer_43 ?_
      refine lv_aload_n hx hb dX7_addPlayer_46 rfl (lv_at hl 0 rfl) ?_
      refine rM_s hx hb hts hown (fun _ h => List.mem_cons_of_mem _ (List.mem_append_left _ (List.mem_append_right _ h))) V (hts _ (List.mem_of_getElem? (i := 3) rfl)) dX7_addPlayer_47 ?_
      refine gM_T hx hb hts hown (fun _ h => List.mem_cons_of_mem _ (List.mem_append_right _ h)) V 1 (by decide) (mN_use (q := (32, "players", "I")) Z 0 rfl) (v := .int (q7.2.2.1 21 0)) rfl dX7_addPlayer_50 ?_
      refine lv_iload_n hx hb dX7_addPlayer_53 rfl (lv_at hl 1 rfl) ?_
      obtain ⟨hi10, h⟩ := gd_s h
      refine bM_I hx hb V 0 1 8 (by decide) rfl rfl hi10 dX7_addPlayer_54 (fun H locs V => ?_)
      refine lv_aload_n hx hb dX7_addPlayer_55 rfl (lv_at hl 0 rfl) ?_
      refine rM_s hx hb hts hown (fun _ h => List.mem_cons_of_mem _ (List.mem_append_left _ (List.mem_append_right _ h))) V (hts _ (List.mem_of_getElem? (i := 3) rfl)) dX7_addPlayer_56 ?_
      refine lv_dup hx hb dX7_addPlayer_59 rfl ?_
      refine gM_T hx hb hts hown (fun _ h => List.mem_cons_of_mem _ (List.mem_append_right _ h)) V 1 (by decide) (mN_use (q := (32, "players", "I")) Z 0 rfl) (v := .int ((mUp q7.2.2.1 0 (q7.2.2.1 21 0).toNatClampNeg a1) 21 0)) rfl dX7_addPlayer_60 ?_
      refine lv_iconst (v := 1) hx hb dX7_addPlayer_63 (by decide) ?_
      refine lv_iadd hx hb dX7_addPlayer_64 ?_
      refine pM_T hx hb hts hown (fun _ h => List.mem_cons_of_mem _ (List.mem_append_right _ h)) V 1 21 (by decide) (by decide) (mN_use (q := (32, "players", "I")) Z 0 rfl) rfl (mR0_s21 _ _ _) dX7_addPlayer_65 (fun H locs V => ?_)
      refine lv_aload_n hx hb dX7_addPlayer_68 rfl (lv_at hl 0 rfl) ?_
      refine rM_s hx hb hts hown (fun _ h => List.mem_cons_of_mem _ (List.mem_append_left _ (List.mem_append_right _ h))) V (hts _ (List.mem_of_getElem? (i := 3) rfl)) dX7_addPlayer_69 ?_
      refine gM_T hx hb hts hown (fun _ h => List.mem_cons_of_mem _ (List.mem_append_right _ h)) V 1 (by decide) (mN_use (q := (32, "players", "I")) Z 0 rfl) (v := .int ((mUp (mUp q7.2.2.1 0 (q7.2.2.1 21 0).toNatClampNeg a1) 21 0 (((mUp q7.2.2.1 0 (q7.2.2.1 21 0).toNatClampNeg a1) 21 0) + 1)) 21 0)) rfl dX7_addPlayer_72 ?_
      refine lv_iconst (v := 1) hx hb dX7_addPlayer_75 (by decide) ?_
      refine lv_isub hx hb dX7_addPlayer_76 ?_
      obtain rfl := Option.some.inj h
      exact m_iret hx hb hr hlk V (Nat.zero_le _) (Nat.zero_le _) dX7_addPlayer_77
    · replace h := ite_t hc9 h
      refine lv_aload_n hx hb dX7_addPlayer_33 rfl (lv_at hl 0 rfl) ?_
      refine lv_iconst (v := 2) hx hb dX7_addPlayer_34 (by decide) ?_
      obtain ⟨q11, hq11, h⟩ := bd_s h
      refine kMM (As := [.int 2]) (rest := []) ⟨hx, hb, hml, hown, hts⟩ Z V (c_X7_no (l := l) (D := D) (y := y) (ad := ad) hq11) (cwV 1 hts gX7_addPlayer_X7_no rfl rfl rfl (by decide +kernel) ⟨Nat.le_of_ble_eq_true rfl, Nat.le_of_ble_eq_true rfl⟩) (by omega) (mM_m y ad _ _ _) rfl rfl hl.1 rfl (Nat.le_of_ble_eq_true rfl) ⟨Nat.zero_le _, Nat.zero_le _⟩ rfl dX7_addPlayer_35 (fun H locs V => ?_)
      obtain rfl := Option.some.inj h
      exact m_iret hx hb hr hlk V (Nat.zero_le _) (Nat.zero_le _) dX7_addPlayer_38
  · replace h := ite_t hc8 h
    refine lv_aload_n hx hb dX7_addPlayer_15 rfl (lv_at hl 0 rfl) ?_
    refine lv_iconst (v := 1) hx hb dX7_addPlayer_16 (by decide) ?_
    obtain ⟨q12, hq12, h⟩ := bd_s h
    refine kMM (As := [.int 1]) (rest := []) ⟨hx, hb, hml, hown, hts⟩ Z V (c_X7_no (l := l) (D := D) (y := y) (ad := ad) hq12) (cwV 1 hts gX7_addPlayer_X7_no rfl rfl rfl (by decide +kernel) ⟨Nat.le_of_ble_eq_true rfl, Nat.le_of_ble_eq_true rfl⟩) (by omega) (mM_m y ad _ _ _) rfl rfl hl.1 rfl (Nat.le_of_ble_eq_true rfl) ⟨Nat.zero_le _, Nat.zero_le _⟩ rfl dX7_addPlayer_17 (fun H locs V => ?_)
    obtain rfl := Option.some.inj h
    exact m_iret hx hb hr hlk V (Nat.zero_le _) (Nat.zero_le _) dX7_addPlayer_20
-- X7_isPlayer
def f_X7_isPlayer (N : Nat) (th : Int32) (ρ α : mSt) (a1 : Int32) : Option (Int32 × Int32 × mSt × mSt) := (f_X7_isIn N th ρ α a1 0 ((ρ 21 0) - 1)).bind fun q3 => if q3.1 = 0 ∨ q3.1 = 1 then some (q3.1, q3.2.1, q3.2.2.1, q3.2.2.2) else none
set_option maxHeartbeats 4000000 in
set_option maxRecDepth 100000 in
theorem c_X7_isPlayer {l : Launch} {D : va_G} {y : Nat → ClassId} {ad : Nat → Nat} {N : Nat} {th : Int32} {ρ α : mSt} {a1 : Int32} {q : Int32 × Int32 × mSt × mSt} (h : f_X7_isPlayer N th ρ α a1 = some q) : mC l yX7_isPlayer wsX7_isPlayer { frames := 1, cells := 0, slots := 0, locals := 22 } D y 43 ad mN (mM y ad th ρ α) [.ref (ad 42), .int a1] (some (.int q.1)) (mM y ad q.2.1 q.2.2.1 q.2.2.2) 0 0 := by
  refine m_start (cc := cX7_isPlayer) (maxL := 2) (ret := (some .boolean)) (by decide) rfl (Nat.le_of_ble_eq_true rfl) (fun p e s m args below meth c ls hB _ V Z hl => ?_)
  obtain ⟨hx, hb, hml, hown, hts, hr, hlk⟩ := id hB
  have hl : lv_has ls 2 [(0, .ref (ad 42)), (1, .int a1)] := hl
  rw [f_X7_isPlayer] at h
  refine lv_iload_n hx hb dX7_isPlayer_0 rfl (lv_at hl 1 rfl) ?_
  refine lv_iconst (v := 0) hx hb dX7_isPlayer_1 (by decide) ?_
  refine lv_aload_n hx hb dX7_isPlayer_2 rfl (lv_at hl 0 rfl) ?_
  refine rM_s hx hb hts hown (fun _ h => List.mem_cons_of_mem _ (List.mem_append_left _ (List.mem_append_right _ h))) V (hts _ (List.mem_of_getElem? (i := 1) rfl)) dX7_isPlayer_3 ?_
  refine gM_T hx hb hts hown (fun _ h => List.mem_cons_of_mem _ (List.mem_append_right _ h)) V 1 (by decide) (mN_use (q := (32, "players", "I")) Z 0 rfl) (v := .int (ρ 21 0)) rfl dX7_isPlayer_6 ?_
  refine lv_iconst (v := 1) hx hb dX7_isPlayer_9 (by decide) ?_
  refine lv_isub hx hb dX7_isPlayer_10 ?_
  obtain ⟨q3, hq3, h⟩ := bd_s h
  refine kMMs (As := [.int a1, .int 0, .int ((ρ 21 0) - 1)]) (rest := []) ⟨hx, hb, hml, hown, hts⟩ Z V (c_X7_isIn (l := l) (D := D) (y := y) (ad := ad) hq3) (va_cwS 3 hts gX7_isPlayer_X7_isIn rfl rfl rfl (by decide +kernel) ⟨Nat.le_of_ble_eq_true rfl, Nat.le_of_ble_eq_true rfl⟩) rfl hl.1 rfl (Nat.le_of_ble_eq_true rfl) ⟨Nat.zero_le _, Nat.zero_le _⟩ rfl dX7_isPlayer_11 (fun H locs V => ?_)
  obtain ⟨hz4, h⟩ := gd_s h
  obtain rfl := Option.some.inj h
  exact m_zret hx hb hr hlk V hz4 (Nat.zero_le _) (Nat.zero_le _) dX7_isPlayer_14
-- X7_loansOf
def f_X7_loansOf_51 (N : Nat) (a1 : Int32) (a2 : Int32) (rec5 : Int32 → mSt → mSt → Int32 → Int32 → Option (Int32 × Int32 × mSt × mSt)) (th : Int32) (ρ α : mSt) (v4 : Int32) (s0 : Int32) (s1 : Int32) : Option (Int32 × Int32 × mSt × mSt) := rec5 th ρ α (s0 + s1) (v4 + 1)
set_option maxHeartbeats 4000000 in
set_option maxRecDepth 100000 in
theorem w_X7_loansOf_51 {l : Launch} {D : va_G} {y : Nat → ClassId} {ad : Nat → Nat} {N : Nat} {p : Program} {e : Env} {s : State} {m : MethodId} {args : Array Value} {below : List Frame} {meth : Method} {c : Code} (Z : mN (mFree 43 ad s.heap.size) s) (hB : mBd p s m args meth c cX7_loansOf 5 wsX7_loansOf RX7 (some .int)) {a1 : Int32} {a2 : Int32} {q : Int32 × Int32 × mSt × mSt} {rec5 : Int32 → mSt → mSt → Int32 → Int32 → Option (Int32 × Int32 × mSt × mSt)} (hrec5 : ∀ (th : Int32) (ρ α : mSt) (v3 : Int32) (v4 : Int32), rec5 th ρ α v3 v4 = some q → ∀ (H : Heap) (locs : List Loc) (ls : Array Slot), mV D y (mFree 43 ad s.heap.size) s s.heap H locs 43 ad (mM y ad th ρ α) → lv_has ls 5 [(0, .ref (ad 42)), (1, .int a1), (2, .int a2), (3, .int v3), (4, .int v4)] → W p l e { frames := 0, cells := 0, slots := 0, locals := 0 } s m args below meth c H locs 0 0 (MQ below (mQ (some (.int q.1)) D 43 ad (mM y ad q.2.1 q.2.2.1 q.2.2.2) s.heap.size) args s 0 0 (mFree 43 ad s.heap.size)) (F0 m 5 ls [])) : ∀ (th : Int32) (ρ α : mSt) (v4 : Int32) (s0 : Int32) (s1 : Int32), f_X7_loansOf_51 N a1 a2 rec5 th ρ α v4 s0 s1 = some q → ∀ (H : Heap) (locs : List Loc) (ls : Array Slot), mV D y (mFree 43 ad s.heap.size) s s.heap H locs 43 ad (mM y ad th ρ α) → lv_has ls 5 [(0, .ref (ad 42)), (1, .int a1), (2, .int a2), (4, .int v4)] → W p l e { frames := 0, cells := 0, slots := 0, locals := 0 } s m args below meth c H locs 0 0 (MQ below (mQ (some (.int q.1)) D 43 ad (mM y ad q.2.1 q.2.2.1 q.2.2.2) s.heap.size) args s 0 0 (mFree 43 ad s.heap.size)) (F0 m 51 ls [.int s1, .int s0]) := by
  obtain ⟨hx, hb, hml, hown, hts, hr, hlk⟩ := id hB
  intro th ρ α v4 s0 s1 h H locs ls V hl
  rw [f_X7_loansOf_51] at h
  refine lv_iadd hx hb dX7_loansOf_51 ?_
  refine lv_istore_n (lv' := [(3, .int (s0 + s1)), (0, .ref (ad 42)), (1, .int a1), (2, .int a2), (4, .int v4)]) hx hb dX7_loansOf_52 rfl hl (by decide) rfl (fun ls hl => ?_)
  refine lv_iinc (v := v4 + 1) (lv' := [(4, .int (v4 + 1)), (3, .int (s0 + s1)), (0, .ref (ad 42)), (1, .int a1), (2, .int a2)]) hx hb dX7_loansOf_53 hl (k := 4) rfl rfl (by decide) rfl (fun ls hl => ?_)
  refine lv_goto (tgt := 5) hx hb dX7_loansOf_56 (by decide) ?_
  exact hrec5 _ _ _ _ _ h _ _ _ V (lv_sub hl [2, 3, 4, 1, 0] rfl)
def f_X7_loansOf_50 (N : Nat) (a1 : Int32) (a2 : Int32) (rec5 : Int32 → mSt → mSt → Int32 → Int32 → Option (Int32 × Int32 × mSt × mSt)) (th : Int32) (ρ α : mSt) (v4 : Int32) (s0 : Int32) : Option (Int32 × Int32 × mSt × mSt) := f_X7_loansOf_51 N a1 a2 rec5 th ρ α v4 s0 0
set_option maxHeartbeats 4000000 in
set_option maxRecDepth 100000 in
theorem w_X7_loansOf_50 {l : Launch} {D : va_G} {y : Nat → ClassId} {ad : Nat → Nat} {N : Nat} {p : Program} {e : Env} {s : State} {m : MethodId} {args : Array Value} {below : List Frame} {meth : Method} {c : Code} (Z : mN (mFree 43 ad s.heap.size) s) (hB : mBd p s m args meth c cX7_loansOf 5 wsX7_loansOf RX7 (some .int)) {a1 : Int32} {a2 : Int32} {q : Int32 × Int32 × mSt × mSt} {rec5 : Int32 → mSt → mSt → Int32 → Int32 → Option (Int32 × Int32 × mSt × mSt)} (hrec5 : ∀ (th : Int32) (ρ α : mSt) (v3 : Int32) (v4 : Int32), rec5 th ρ α v3 v4 = some q → ∀ (H : Heap) (locs : List Loc) (ls : Array Slot), mV D y (mFree 43 ad s.heap.size) s s.heap H locs 43 ad (mM y ad th ρ α) → lv_has ls 5 [(0, .ref (ad 42)), (1, .int a1), (2, .int a2), (3, .int v3), (4, .int v4)] → W p l e { frames := 0, cells := 0, slots := 0, locals := 0 } s m args below meth c H locs 0 0 (MQ below (mQ (some (.int q.1)) D 43 ad (mM y ad q.2.1 q.2.2.1 q.2.2.2) s.heap.size) args s 0 0 (mFree 43 ad s.heap.size)) (F0 m 5 ls [])) : ∀ (th : Int32) (ρ α : mSt) (v4 : Int32) (s0 : Int32), f_X7_loansOf_50 N a1 a2 rec5 th ρ α v4 s0 = some q → ∀ (H : Heap) (locs : List Loc) (ls : Array Slot), mV D y (mFree 43 ad s.heap.size) s s.heap H locs 43 ad (mM y ad th ρ α) → lv_has ls 5 [(0, .ref (ad 42)), (1, .int a1), (2, .int a2), (4, .int v4)] → W p l e { frames := 0, cells := 0, slots := 0, locals := 0 } s m args below meth c H locs 0 0 (MQ below (mQ (some (.int q.1)) D 43 ad (mM y ad q.2.1 q.2.2.1 q.2.2.2) s.heap.size) args s 0 0 (mFree 43 ad s.heap.size)) (F0 m 50 ls [.int s0]) := by
  obtain ⟨hx, hb, hml, hown, hts, hr, hlk⟩ := id hB
  intro th ρ α v4 s0 h H locs ls V hl
  rw [f_X7_loansOf_50] at h
  refine lv_iconst (v := 0) hx hb dX7_loansOf_50 (by decide) ?_
  exact w_X7_loansOf_51 Z hB hrec5 _ _ _ _ _ _ h _ _ _ V (lv_sub hl [0, 1, 2, 3] rfl)
def f_X7_loansOf_5 (N : Nat) (a1 : Int32) (a2 : Int32)  : Nat → Int32 → mSt → mSt → Int32 → Int32 → Option (Int32 × Int32 × mSt × mSt)
  | 0, _, _, _, _, _ => none
  | n + 1, th, ρ, α, v3, v4 => if (ρ 23 0) ≤ v4 then some (v3, th, ρ, α) else if mIn v4 20 then if (ρ 15 v4.toNatClampNeg) = a1 then if (ρ 19 v4.toNatClampNeg) = a2 then f_X7_loansOf_51 N a1 a2 (fun th ρ α v3 v4 => f_X7_loansOf_5 N a1 a2 n th ρ α v3 v4) th ρ α v4 v3 1 else f_X7_loansOf_50 N a1 a2 (fun th ρ α v3 v4 => f_X7_loansOf_5 N a1 a2 n th ρ α v3 v4) th ρ α v4 v3 else f_X7_loansOf_50 N a1 a2 (fun th ρ α v3 v4 => f_X7_loansOf_5 N a1 a2 n th ρ α v3 v4) th ρ α v4 v3 else none
set_option maxHeartbeats 4000000 in
set_option maxRecDepth 100000 in
theorem w_X7_loansOf_5 {l : Launch} {D : va_G} {y : Nat → ClassId} {ad : Nat → Nat} {N : Nat} {p : Program} {e : Env} {s : State} {m : MethodId} {args : Array Value} {below : List Frame} {meth : Method} {c : Code} (Z : mN (mFree 43 ad s.heap.size) s) (hB : mBd p s m args meth c cX7_loansOf 5 wsX7_loansOf RX7 (some .int)) {a1 : Int32} {a2 : Int32} {q : Int32 × Int32 × mSt × mSt}   : ∀ (n : Nat) (th : Int32) (ρ α : mSt) (v3 : Int32) (v4 : Int32), f_X7_loansOf_5 N a1 a2  n th ρ α v3 v4 = some q → ∀ (H : Heap) (locs : List Loc) (ls : Array Slot), mV D y (mFree 43 ad s.heap.size) s s.heap H locs 43 ad (mM y ad th ρ α) → lv_has ls 5 [(0, .ref (ad 42)), (1, .int a1), (2, .int a2), (3, .int v3), (4, .int v4)] → W p l e { frames := 0, cells := 0, slots := 0, locals := 0 } s m args below meth c H locs 0 0 (MQ below (mQ (some (.int q.1)) D 43 ad (mM y ad q.2.1 q.2.2.1 q.2.2.2) s.heap.size) args s 0 0 (mFree 43 ad s.heap.size)) (F0 m 5 ls []) := by
  obtain ⟨hx, hb, hml, hown, hts, hr, hlk⟩ := id hB
  intro n
  induction n with
  | zero =>
    intro th ρ α v3 v4 h
    exact nomatch h
  | succ n ih =>
    intro th ρ α v3 v4 h H locs ls V hl
    rw [f_X7_loansOf_5] at h
    refine lv_iload hx hb dX7_loansOf_5 (lv_at hl 4 rfl) ?_
    refine lv_aload_n hx hb dX7_loansOf_7 rfl (lv_at hl 0 rfl) ?_
    refine rM_s hx hb hts hown (fun _ h => List.mem_cons_of_mem _ (List.mem_append_left _ (List.mem_append_right _ h))) V (hts _ (List.mem_of_getElem? (i := 1) rfl)) dX7_loansOf_8 ?_
    refine gM_T hx hb hts hown (fun _ h => List.mem_cons_of_mem _ (List.mem_append_right _ h)) V 18 (by decide) (mN_use (q := (39, "loans", "I")) Z 2 rfl) (v := .int (ρ 23 0)) rfl dX7_loansOf_11 ?_
    refine lv_icmp_ge (tgt := 59) hx hb dX7_loansOf_14 (by decide) (fun hc6 => ?_) (fun hc6 => ?_)
    · replace h := ite_t hc6 h
      refine lv_iload_n hx hb dX7_loansOf_59 rfl (lv_at hl 3 rfl) ?_
      obtain rfl := Option.some.inj h
      exact m_iret hx hb hr hlk V (Nat.zero_le _) (Nat.zero_le _) dX7_loansOf_60
    · replace h := ite_f hc6 h
      refine lv_iload_n hx hb dX7_loansOf_17 rfl (lv_at hl 3 rfl) ?_
      refine lv_aload_n hx hb dX7_loansOf_18 rfl (lv_at hl 0 rfl) ?_
      refine rM_s hx hb hts hown (fun _ h => List.mem_cons_of_mem _ (List.mem_append_left _ (List.mem_append_right _ h))) V (hts _ (List.mem_of_getElem? (i := 1) rfl)) dX7_loansOf_19 ?_
      refine gM_T hx hb hts hown (fun _ h => List.mem_cons_of_mem _ (List.mem_append_right _ h)) V 19 (by decide) (mN_use (q := (42, "borrower", "[I")) Z 3 rfl) (v := .ref (ad 16)) rfl dX7_loansOf_22 ?_
      refine lv_iload hx hb dX7_loansOf_25 (lv_at hl 4 rfl) ?_
      obtain ⟨hi7, h⟩ := gd_s h
      refine aM_I hx hb V 15 16 20 (by decide) rfl rfl hi7 dX7_loansOf_27 ?_
      refine lv_iload_n hx hb dX7_loansOf_28 rfl (lv_at hl 1 rfl) ?_
      refine lv_icmp_ne (tgt := 50) hx hb dX7_loansOf_29 (by decide) (fun hc8 => ?_) (fun hc8 => ?_)
      · replace h := ite_f hc8 h
        exact w_X7_loansOf_50 Z hB ih _ _ _ _ _ h _ _ _ V (lv_sub hl [0, 1, 2, 4] rfl)
      · replace h := ite_t hc8 h
        refine lv_aload_n hx hb dX7_loansOf_32 rfl (lv_at hl 0 rfl) ?_
        refine rM_s hx hb hts hown (fun _ h => List.mem_cons_of_mem _ (List.mem_append_left _ (List.mem_append_right _ h))) V (hts _ (List.mem_of_getElem? (i := 1) rfl)) dX7_loansOf_33 ?_
        refine gM_T hx hb hts hown (fun _ h => List.mem_cons_of_mem _ (List.mem_append_right _ h)) V 23 (by decide) (mN_use (q := (45, "kind", "[I")) Z 4 rfl) (v := .ref (ad 20)) rfl dX7_loansOf_36 ?_
        refine lv_iload hx hb dX7_loansOf_39 (lv_at hl 4 rfl) ?_
        refine aM_I hx hb V 19 20 20 (by decide) rfl rfl hi7 dX7_loansOf_41 ?_
        refine lv_iload_n hx hb dX7_loansOf_42 rfl (lv_at hl 2 rfl) ?_
        refine lv_icmp_ne (tgt := 50) hx hb dX7_loansOf_43 (by decide) (fun hc10 => ?_) (fun hc10 => ?_)
        · replace h := ite_f hc10 h
          exact w_X7_loansOf_50 Z hB ih _ _ _ _ _ h _ _ _ V (lv_sub hl [0, 1, 2, 4] rfl)
        · replace h := ite_t hc10 h
          refine lv_iconst (v := 1) hx hb dX7_loansOf_46 (by decide) ?_
          refine lv_goto (tgt := 51) hx hb dX7_loansOf_47 (by decide) ?_
          exact w_X7_loansOf_51 Z hB ih _ _ _ _ _ _ h _ _ _ V (lv_sub hl [0, 1, 2, 4] rfl)
def f_X7_loansOf (N : Nat) (th : Int32) (ρ α : mSt) (a1 : Int32) (a2 : Int32) : Option (Int32 × Int32 × mSt × mSt) := f_X7_loansOf_5 N a1 a2 N th ρ α 0 0
set_option maxHeartbeats 4000000 in
set_option maxRecDepth 100000 in
theorem c_X7_loansOf {l : Launch} {D : va_G} {y : Nat → ClassId} {ad : Nat → Nat} {N : Nat} {th : Int32} {ρ α : mSt} {a1 : Int32} {a2 : Int32} {q : Int32 × Int32 × mSt × mSt} (h : f_X7_loansOf N th ρ α a1 a2 = some q) : mC l yX7_loansOf wsX7_loansOf { frames := 0, cells := 0, slots := 0, locals := 0 } D y 43 ad mN (mM y ad th ρ α) [.ref (ad 42), .int a1, .int a2] (some (.int q.1)) (mM y ad q.2.1 q.2.2.1 q.2.2.2) 0 0 := by
  refine m_start (cc := cX7_loansOf) (maxL := 5) (ret := (some .int)) (by decide) rfl (Nat.le_of_ble_eq_true rfl) (fun p e s m args below meth c ls hB _ V Z hl => ?_)
  obtain ⟨hx, hb, hml, hown, hts, hr, hlk⟩ := id hB
  have hl : lv_has ls 5 [(0, .ref (ad 42)), (1, .int a1), (2, .int a2)] := hl
  rw [f_X7_loansOf] at h
  refine lv_iconst (v := 0) hx hb dX7_loansOf_0 (by decide) ?_
  refine lv_istore_n (lv' := [(3, .int 0), (0, .ref (ad 42)), (1, .int a1), (2, .int a2)]) hx hb dX7_loansOf_1 rfl hl (by decide) rfl (fun ls hl => ?_)
  refine lv_iconst (v := 0) hx hb dX7_loansOf_2 (by decide) ?_
  refine lv_istore (lv' := [(4, .int 0), (3, .int 0), (0, .ref (ad 42)), (1, .int a1), (2, .int a2)]) hx hb dX7_loansOf_3 hl (by decide) rfl (fun ls hl => ?_)
  exact w_X7_loansOf_5 Z hB _ _ _ _ _ _ h _ _ _ V (lv_sub hl [2, 3, 4, 1, 0] rfl)
-- X7_owedBy
def f_X7_owedBy_55 (N : Nat) (a1 : Int32) (rec4 : Int32 → mSt → mSt → Int32 → Int32 → Option (Int32 × Int32 × mSt × mSt)) (th : Int32) (ρ α : mSt) (v3 : Int32) (s0 : Int32) (s1 : Int32) : Option (Int32 × Int32 × mSt × mSt) := rec4 th ρ α (s0 + s1) (v3 + 1)
set_option maxHeartbeats 4000000 in
set_option maxRecDepth 100000 in
theorem w_X7_owedBy_55 {l : Launch} {D : va_G} {y : Nat → ClassId} {ad : Nat → Nat} {N : Nat} {p : Program} {e : Env} {s : State} {m : MethodId} {args : Array Value} {below : List Frame} {meth : Method} {c : Code} (Z : mN (mFree 43 ad s.heap.size) s) (hB : mBd p s m args meth c cX7_owedBy 4 wsX7_owedBy RX7 (some .int)) {a1 : Int32} {q : Int32 × Int32 × mSt × mSt} {rec4 : Int32 → mSt → mSt → Int32 → Int32 → Option (Int32 × Int32 × mSt × mSt)} (hrec4 : ∀ (th : Int32) (ρ α : mSt) (v2 : Int32) (v3 : Int32), rec4 th ρ α v2 v3 = some q → ∀ (H : Heap) (locs : List Loc) (ls : Array Slot), mV D y (mFree 43 ad s.heap.size) s s.heap H locs 43 ad (mM y ad th ρ α) → lv_has ls 4 [(0, .ref (ad 42)), (1, .int a1), (2, .int v2), (3, .int v3)] → W p l e { frames := 0, cells := 0, slots := 0, locals := 0 } s m args below meth c H locs 0 0 (MQ below (mQ (some (.int q.1)) D 43 ad (mM y ad q.2.1 q.2.2.1 q.2.2.2) s.heap.size) args s 0 0 (mFree 43 ad s.heap.size)) (F0 m 4 ls [])) : ∀ (th : Int32) (ρ α : mSt) (v3 : Int32) (s0 : Int32) (s1 : Int32), f_X7_owedBy_55 N a1 rec4 th ρ α v3 s0 s1 = some q → ∀ (H : Heap) (locs : List Loc) (ls : Array Slot), mV D y (mFree 43 ad s.heap.size) s s.heap H locs 43 ad (mM y ad th ρ α) → lv_has ls 4 [(0, .ref (ad 42)), (1, .int a1), (3, .int v3)] → W p l e { frames := 0, cells := 0, slots := 0, locals := 0 } s m args below meth c H locs 0 0 (MQ below (mQ (some (.int q.1)) D 43 ad (mM y ad q.2.1 q.2.2.1 q.2.2.2) s.heap.size) args s 0 0 (mFree 43 ad s.heap.size)) (F0 m 55 ls [.int s1, .int s0]) := by
  obtain ⟨hx, hb, hml, hown, hts, hr, hlk⟩ := id hB
  intro th ρ α v3 s0 s1 h H locs ls V hl
  rw [f_X7_owedBy_55] at h
  refine lv_iadd hx hb dX7_owedBy_55 ?_
  refine lv_istore_n (lv' := [(2, .int (s0 + s1)), (0, .ref (ad 42)), (1, .int a1), (3, .int v3)]) hx hb dX7_owedBy_56 rfl hl (by decide) rfl (fun ls hl => ?_)
  refine lv_iinc (v := v3 + 1) (lv' := [(3, .int (v3 + 1)), (2, .int (s0 + s1)), (0, .ref (ad 42)), (1, .int a1)]) hx hb dX7_owedBy_57 hl (k := 3) rfl rfl (by decide) rfl (fun ls hl => ?_)
  refine lv_goto (tgt := 4) hx hb dX7_owedBy_60 (by decide) ?_
  exact hrec4 _ _ _ _ _ h _ _ _ V (lv_sub hl [2, 3, 1, 0] rfl)
def f_X7_owedBy_54 (N : Nat) (a1 : Int32) (rec4 : Int32 → mSt → mSt → Int32 → Int32 → Option (Int32 × Int32 × mSt × mSt)) (th : Int32) (ρ α : mSt) (v3 : Int32) (s0 : Int32) : Option (Int32 × Int32 × mSt × mSt) := f_X7_owedBy_55 N a1 rec4 th ρ α v3 s0 0
set_option maxHeartbeats 4000000 in
set_option maxRecDepth 100000 in
theorem w_X7_owedBy_54 {l : Launch} {D : va_G} {y : Nat → ClassId} {ad : Nat → Nat} {N : Nat} {p : Program} {e : Env} {s : State} {m : MethodId} {args : Array Value} {below : List Frame} {meth : Method} {c : Code} (Z : mN (mFree 43 ad s.heap.size) s) (hB : mBd p s m args meth c cX7_owedBy 4 wsX7_owedBy RX7 (some .int)) {a1 : Int32} {q : Int32 × Int32 × mSt × mSt} {rec4 : Int32 → mSt → mSt → Int32 → Int32 → Option (Int32 × Int32 × mSt × mSt)} (hrec4 : ∀ (th : Int32) (ρ α : mSt) (v2 : Int32) (v3 : Int32), rec4 th ρ α v2 v3 = some q → ∀ (H : Heap) (locs : List Loc) (ls : Array Slot), mV D y (mFree 43 ad s.heap.size) s s.heap H locs 43 ad (mM y ad th ρ α) → lv_has ls 4 [(0, .ref (ad 42)), (1, .int a1), (2, .int v2), (3, .int v3)] → W p l e { frames := 0, cells := 0, slots := 0, locals := 0 } s m args below meth c H locs 0 0 (MQ below (mQ (some (.int q.1)) D 43 ad (mM y ad q.2.1 q.2.2.1 q.2.2.2) s.heap.size) args s 0 0 (mFree 43 ad s.heap.size)) (F0 m 4 ls [])) : ∀ (th : Int32) (ρ α : mSt) (v3 : Int32) (s0 : Int32), f_X7_owedBy_54 N a1 rec4 th ρ α v3 s0 = some q → ∀ (H : Heap) (locs : List Loc) (ls : Array Slot), mV D y (mFree 43 ad s.heap.size) s s.heap H locs 43 ad (mM y ad th ρ α) → lv_has ls 4 [(0, .ref (ad 42)), (1, .int a1), (3, .int v3)] → W p l e { frames := 0, cells := 0, slots := 0, locals := 0 } s m args below meth c H locs 0 0 (MQ below (mQ (some (.int q.1)) D 43 ad (mM y ad q.2.1 q.2.2.1 q.2.2.2) s.heap.size) args s 0 0 (mFree 43 ad s.heap.size)) (F0 m 54 ls [.int s0]) := by
  obtain ⟨hx, hb, hml, hown, hts, hr, hlk⟩ := id hB
  intro th ρ α v3 s0 h H locs ls V hl
  rw [f_X7_owedBy_54] at h
  refine lv_iconst (v := 0) hx hb dX7_owedBy_54 (by decide) ?_
  exact w_X7_owedBy_55 Z hB hrec4 _ _ _ _ _ _ h _ _ _ V (lv_sub hl [0, 1, 2] rfl)
def f_X7_owedBy_4 (N : Nat) (a1 : Int32)  : Nat → Int32 → mSt → mSt → Int32 → Int32 → Option (Int32 × Int32 × mSt × mSt)
  | 0, _, _, _, _, _ => none
  | n + 1, th, ρ, α, v2, v3 => if (ρ 23 0) ≤ v3 then some (v2, th, ρ, α) else if mIn v3 20 then if (ρ 15 v3.toNatClampNeg) = a1 then if (ρ 19 v3.toNatClampNeg) = 1 then f_X7_owedBy_54 N a1 (fun th ρ α v2 v3 => f_X7_owedBy_4 N a1 n th ρ α v2 v3) th ρ α v3 v2 else f_X7_owedBy_55 N a1 (fun th ρ α v2 v3 => f_X7_owedBy_4 N a1 n th ρ α v2 v3) th ρ α v3 v2 (ρ 16 v3.toNatClampNeg) else f_X7_owedBy_54 N a1 (fun th ρ α v2 v3 => f_X7_owedBy_4 N a1 n th ρ α v2 v3) th ρ α v3 v2 else none
set_option maxHeartbeats 4000000 in
set_option maxRecDepth 100000 in
theorem w_X7_owedBy_4 {l : Launch} {D : va_G} {y : Nat → ClassId} {ad : Nat → Nat} {N : Nat} {p : Program} {e : Env} {s : State} {m : MethodId} {args : Array Value} {below : List Frame} {meth : Method} {c : Code} (Z : mN (mFree 43 ad s.heap.size) s) (hB : mBd p s m args meth c cX7_owedBy 4 wsX7_owedBy RX7 (some .int)) {a1 : Int32} {q : Int32 × Int32 × mSt × mSt}   : ∀ (n : Nat) (th : Int32) (ρ α : mSt) (v2 : Int32) (v3 : Int32), f_X7_owedBy_4 N a1  n th ρ α v2 v3 = some q → ∀ (H : Heap) (locs : List Loc) (ls : Array Slot), mV D y (mFree 43 ad s.heap.size) s s.heap H locs 43 ad (mM y ad th ρ α) → lv_has ls 4 [(0, .ref (ad 42)), (1, .int a1), (2, .int v2), (3, .int v3)] → W p l e { frames := 0, cells := 0, slots := 0, locals := 0 } s m args below meth c H locs 0 0 (MQ below (mQ (some (.int q.1)) D 43 ad (mM y ad q.2.1 q.2.2.1 q.2.2.2) s.heap.size) args s 0 0 (mFree 43 ad s.heap.size)) (F0 m 4 ls []) := by
  obtain ⟨hx, hb, hml, hown, hts, hr, hlk⟩ := id hB
  intro n
  induction n with
  | zero =>
    intro th ρ α v2 v3 h
    exact nomatch h
  | succ n ih =>
    intro th ρ α v2 v3 h H locs ls V hl
    rw [f_X7_owedBy_4] at h
    refine lv_iload_n hx hb dX7_owedBy_4 rfl (lv_at hl 3 rfl) ?_
    refine lv_aload_n hx hb dX7_owedBy_5 rfl (lv_at hl 0 rfl) ?_
    refine rM_s hx hb hts hown (fun _ h => List.mem_cons_of_mem _ (List.mem_append_left _ (List.mem_append_right _ h))) V (hts _ (List.mem_of_getElem? (i := 1) rfl)) dX7_owedBy_6 ?_
    refine gM_T hx hb hts hown (fun _ h => List.mem_cons_of_mem _ (List.mem_append_right _ h)) V 18 (by decide) (mN_use (q := (39, "loans", "I")) Z 2 rfl) (v := .int (ρ 23 0)) rfl dX7_owedBy_9 ?_
    refine lv_icmp_ge (tgt := 63) hx hb dX7_owedBy_12 (by decide) (fun hc7 => ?_) (fun hc7 => ?_)
    · replace h := ite_t hc7 h
      refine lv_iload_n hx hb dX7_owedBy_63 rfl (lv_at hl 2 rfl) ?_
      obtain rfl := Option.some.inj h
      exact m_iret hx hb hr hlk V (Nat.zero_le _) (Nat.zero_le _) dX7_owedBy_64
    · replace h := ite_f hc7 h
      refine lv_iload_n hx hb dX7_owedBy_15 rfl (lv_at hl 2 rfl) ?_
      refine lv_aload_n hx hb dX7_owedBy_16 rfl (lv_at hl 0 rfl) ?_
      refine rM_s hx hb hts hown (fun _ h => List.mem_cons_of_mem _ (List.mem_append_left _ (List.mem_append_right _ h))) V (hts _ (List.mem_of_getElem? (i := 1) rfl)) dX7_owedBy_17 ?_
      refine gM_T hx hb hts hown (fun _ h => List.mem_cons_of_mem _ (List.mem_append_right _ h)) V 19 (by decide) (mN_use (q := (42, "borrower", "[I")) Z 3 rfl) (v := .ref (ad 16)) rfl dX7_owedBy_20 ?_
      refine lv_iload_n hx hb dX7_owedBy_23 rfl (lv_at hl 3 rfl) ?_
      obtain ⟨hi8, h⟩ := gd_s h
      refine aM_I hx hb V 15 16 20 (by decide) rfl rfl hi8 dX7_owedBy_24 ?_
      refine lv_iload_n hx hb dX7_owedBy_25 rfl (lv_at hl 1 rfl) ?_
      refine lv_icmp_ne (tgt := 54) hx hb dX7_owedBy_26 (by decide) (fun hc9 => ?_) (fun hc9 => ?_)
      · replace h := ite_f hc9 h
        exact w_X7_owedBy_54 Z hB ih _ _ _ _ _ h _ _ _ V (lv_sub hl [0, 1, 3] rfl)
      · replace h := ite_t hc9 h
        refine lv_aload_n hx hb dX7_owedBy_29 rfl (lv_at hl 0 rfl) ?_
        refine rM_s hx hb hts hown (fun _ h => List.mem_cons_of_mem _ (List.mem_append_left _ (List.mem_append_right _ h))) V (hts _ (List.mem_of_getElem? (i := 1) rfl)) dX7_owedBy_30 ?_
        refine gM_T hx hb hts hown (fun _ h => List.mem_cons_of_mem _ (List.mem_append_right _ h)) V 23 (by decide) (mN_use (q := (45, "kind", "[I")) Z 4 rfl) (v := .ref (ad 20)) rfl dX7_owedBy_33 ?_
        refine lv_iload_n hx hb dX7_owedBy_36 rfl (lv_at hl 3 rfl) ?_
        refine aM_I hx hb V 19 20 20 (by decide) rfl rfl hi8 dX7_owedBy_37 ?_
        refine lv_iconst (v := 1) hx hb dX7_owedBy_38 (by decide) ?_
        refine lv_icmp_eq (tgt := 54) hx hb dX7_owedBy_39 (by decide) (fun hc11 => ?_) (fun hc11 => ?_)
        · replace h := ite_t hc11 h
          exact w_X7_owedBy_54 Z hB ih _ _ _ _ _ h _ _ _ V (lv_sub hl [0, 1, 3] rfl)
        · replace h := ite_f hc11 h
          refine lv_aload_n hx hb dX7_owedBy_42 rfl (lv_at hl 0 rfl) ?_
          refine rM_s hx hb hts hown (fun _ h => List.mem_cons_of_mem _ (List.mem_append_left _ (List.mem_append_right _ h))) V (hts _ (List.mem_of_getElem? (i := 1) rfl)) dX7_owedBy_43 ?_
          refine gM_T hx hb hts hown (fun _ h => List.mem_cons_of_mem _ (List.mem_append_right _ h)) V 20 (by decide) (mN_use (q := (48, "owed", "[I")) Z 5 rfl) (v := .ref (ad 17)) rfl dX7_owedBy_46 ?_
          refine lv_iload_n hx hb dX7_owedBy_49 rfl (lv_at hl 3 rfl) ?_
          refine aM_I hx hb V 16 17 20 (by decide) rfl rfl hi8 dX7_owedBy_50 ?_
          refine lv_goto (tgt := 55) hx hb dX7_owedBy_51 (by decide) ?_
          exact w_X7_owedBy_55 Z hB ih _ _ _ _ _ _ h _ _ _ V (lv_sub hl [0, 1, 3] rfl)
def f_X7_owedBy (N : Nat) (th : Int32) (ρ α : mSt) (a1 : Int32) : Option (Int32 × Int32 × mSt × mSt) := f_X7_owedBy_4 N a1 N th ρ α 0 0
set_option maxHeartbeats 4000000 in
set_option maxRecDepth 100000 in
theorem c_X7_owedBy {l : Launch} {D : va_G} {y : Nat → ClassId} {ad : Nat → Nat} {N : Nat} {th : Int32} {ρ α : mSt} {a1 : Int32} {q : Int32 × Int32 × mSt × mSt} (h : f_X7_owedBy N th ρ α a1 = some q) : mC l yX7_owedBy wsX7_owedBy { frames := 0, cells := 0, slots := 0, locals := 0 } D y 43 ad mN (mM y ad th ρ α) [.ref (ad 42), .int a1] (some (.int q.1)) (mM y ad q.2.1 q.2.2.1 q.2.2.2) 0 0 := by
  refine m_start (cc := cX7_owedBy) (maxL := 4) (ret := (some .int)) (by decide) rfl (Nat.le_of_ble_eq_true rfl) (fun p e s m args below meth c ls hB _ V Z hl => ?_)
  obtain ⟨hx, hb, hml, hown, hts, hr, hlk⟩ := id hB
  have hl : lv_has ls 4 [(0, .ref (ad 42)), (1, .int a1)] := hl
  rw [f_X7_owedBy] at h
  refine lv_iconst (v := 0) hx hb dX7_owedBy_0 (by decide) ?_
  refine lv_istore_n (lv' := [(2, .int 0), (0, .ref (ad 42)), (1, .int a1)]) hx hb dX7_owedBy_1 rfl hl (by decide) rfl (fun ls hl => ?_)
  refine lv_iconst (v := 0) hx hb dX7_owedBy_2 (by decide) ?_
  refine lv_istore_n (lv' := [(3, .int 0), (2, .int 0), (0, .ref (ad 42)), (1, .int a1)]) hx hb dX7_owedBy_3 rfl hl (by decide) rfl (fun ls hl => ?_)
  exact w_X7_owedBy_4 Z hB _ _ _ _ _ _ h _ _ _ V (lv_sub hl [2, 3, 1, 0] rfl)
-- X7_running
def f_X7_running_63 (N : Nat) (a1 : Int32) (rec4 : Int32 → mSt → mSt → Int32 → Int32 → Option (Int32 × Int32 × mSt × mSt)) (th : Int32) (ρ α : mSt) (v3 : Int32) (s0 : Int32) (s1 : Int32) : Option (Int32 × Int32 × mSt × mSt) := rec4 th ρ α (s0 + s1) (v3 + 1)
set_option maxHeartbeats 4000000 in
set_option maxRecDepth 100000 in
theorem w_X7_running_63 {l : Launch} {D : va_G} {y : Nat → ClassId} {ad : Nat → Nat} {N : Nat} {p : Program} {e : Env} {s : State} {m : MethodId} {args : Array Value} {below : List Frame} {meth : Method} {c : Code} (Z : mN (mFree 43 ad s.heap.size) s) (hB : mBd p s m args meth c cX7_running 4 wsX7_running RX7 (some .int)) {a1 : Int32} {q : Int32 × Int32 × mSt × mSt} {rec4 : Int32 → mSt → mSt → Int32 → Int32 → Option (Int32 × Int32 × mSt × mSt)} (hrec4 : ∀ (th : Int32) (ρ α : mSt) (v2 : Int32) (v3 : Int32), rec4 th ρ α v2 v3 = some q → ∀ (H : Heap) (locs : List Loc) (ls : Array Slot), mV D y (mFree 43 ad s.heap.size) s s.heap H locs 43 ad (mM y ad th ρ α) → lv_has ls 4 [(0, .ref (ad 42)), (1, .int a1), (2, .int v2), (3, .int v3)] → W p l e { frames := 1, cells := 0, slots := 0, locals := 21 } s m args below meth c H locs 0 0 (MQ below (mQ (some (.int q.1)) D 43 ad (mM y ad q.2.1 q.2.2.1 q.2.2.2) s.heap.size) args s 0 0 (mFree 43 ad s.heap.size)) (F0 m 4 ls [])) : ∀ (th : Int32) (ρ α : mSt) (v3 : Int32) (s0 : Int32) (s1 : Int32), f_X7_running_63 N a1 rec4 th ρ α v3 s0 s1 = some q → ∀ (H : Heap) (locs : List Loc) (ls : Array Slot), mV D y (mFree 43 ad s.heap.size) s s.heap H locs 43 ad (mM y ad th ρ α) → lv_has ls 4 [(0, .ref (ad 42)), (1, .int a1), (3, .int v3)] → W p l e { frames := 1, cells := 0, slots := 0, locals := 21 } s m args below meth c H locs 0 0 (MQ below (mQ (some (.int q.1)) D 43 ad (mM y ad q.2.1 q.2.2.1 q.2.2.2) s.heap.size) args s 0 0 (mFree 43 ad s.heap.size)) (F0 m 63 ls [.int s1, .int s0]) := by
  obtain ⟨hx, hb, hml, hown, hts, hr, hlk⟩ := id hB
  intro th ρ α v3 s0 s1 h H locs ls V hl
  rw [f_X7_running_63] at h
  refine lv_iadd hx hb dX7_running_63 ?_
  refine lv_istore_n (lv' := [(2, .int (s0 + s1)), (0, .ref (ad 42)), (1, .int a1), (3, .int v3)]) hx hb dX7_running_64 rfl hl (by decide) rfl (fun ls hl => ?_)
  refine lv_iinc (v := v3 + 1) (lv' := [(3, .int (v3 + 1)), (2, .int (s0 + s1)), (0, .ref (ad 42)), (1, .int a1)]) hx hb dX7_running_65 hl (k := 3) rfl rfl (by decide) rfl (fun ls hl => ?_)
  refine lv_goto (tgt := 4) hx hb dX7_running_68 (by decide) ?_
  exact hrec4 _ _ _ _ _ h _ _ _ V (lv_sub hl [2, 3, 1, 0] rfl)
def f_X7_running_62 (N : Nat) (a1 : Int32) (rec4 : Int32 → mSt → mSt → Int32 → Int32 → Option (Int32 × Int32 × mSt × mSt)) (th : Int32) (ρ α : mSt) (v3 : Int32) (s0 : Int32) : Option (Int32 × Int32 × mSt × mSt) := f_X7_running_63 N a1 rec4 th ρ α v3 s0 0
set_option maxHeartbeats 4000000 in
set_option maxRecDepth 100000 in
theorem w_X7_running_62 {l : Launch} {D : va_G} {y : Nat → ClassId} {ad : Nat → Nat} {N : Nat} {p : Program} {e : Env} {s : State} {m : MethodId} {args : Array Value} {below : List Frame} {meth : Method} {c : Code} (Z : mN (mFree 43 ad s.heap.size) s) (hB : mBd p s m args meth c cX7_running 4 wsX7_running RX7 (some .int)) {a1 : Int32} {q : Int32 × Int32 × mSt × mSt} {rec4 : Int32 → mSt → mSt → Int32 → Int32 → Option (Int32 × Int32 × mSt × mSt)} (hrec4 : ∀ (th : Int32) (ρ α : mSt) (v2 : Int32) (v3 : Int32), rec4 th ρ α v2 v3 = some q → ∀ (H : Heap) (locs : List Loc) (ls : Array Slot), mV D y (mFree 43 ad s.heap.size) s s.heap H locs 43 ad (mM y ad th ρ α) → lv_has ls 4 [(0, .ref (ad 42)), (1, .int a1), (2, .int v2), (3, .int v3)] → W p l e { frames := 1, cells := 0, slots := 0, locals := 21 } s m args below meth c H locs 0 0 (MQ below (mQ (some (.int q.1)) D 43 ad (mM y ad q.2.1 q.2.2.1 q.2.2.2) s.heap.size) args s 0 0 (mFree 43 ad s.heap.size)) (F0 m 4 ls [])) : ∀ (th : Int32) (ρ α : mSt) (v3 : Int32) (s0 : Int32), f_X7_running_62 N a1 rec4 th ρ α v3 s0 = some q → ∀ (H : Heap) (locs : List Loc) (ls : Array Slot), mV D y (mFree 43 ad s.heap.size) s s.heap H locs 43 ad (mM y ad th ρ α) → lv_has ls 4 [(0, .ref (ad 42)), (1, .int a1), (3, .int v3)] → W p l e { frames := 1, cells := 0, slots := 0, locals := 21 } s m args below meth c H locs 0 0 (MQ below (mQ (some (.int q.1)) D 43 ad (mM y ad q.2.1 q.2.2.1 q.2.2.2) s.heap.size) args s 0 0 (mFree 43 ad s.heap.size)) (F0 m 62 ls [.int s0]) := by
  obtain ⟨hx, hb, hml, hown, hts, hr, hlk⟩ := id hB
  intro th ρ α v3 s0 h H locs ls V hl
  rw [f_X7_running_62] at h
  refine lv_iconst (v := 0) hx hb dX7_running_62 (by decide) ?_
  exact w_X7_running_63 Z hB hrec4 _ _ _ _ _ _ h _ _ _ V (lv_sub hl [0, 1, 2] rfl)
def f_X7_running_58 (N : Nat) (a1 : Int32) (rec4 : Int32 → mSt → mSt → Int32 → Int32 → Option (Int32 × Int32 × mSt × mSt)) (th : Int32) (ρ α : mSt) (v3 : Int32) (s0 : Int32) : Option (Int32 × Int32 × mSt × mSt) := f_X7_running_63 N a1 rec4 th ρ α v3 s0 1
set_option maxHeartbeats 4000000 in
set_option maxRecDepth 100000 in
theorem w_X7_running_58 {l : Launch} {D : va_G} {y : Nat → ClassId} {ad : Nat → Nat} {N : Nat} {p : Program} {e : Env} {s : State} {m : MethodId} {args : Array Value} {below : List Frame} {meth : Method} {c : Code} (Z : mN (mFree 43 ad s.heap.size) s) (hB : mBd p s m args meth c cX7_running 4 wsX7_running RX7 (some .int)) {a1 : Int32} {q : Int32 × Int32 × mSt × mSt} {rec4 : Int32 → mSt → mSt → Int32 → Int32 → Option (Int32 × Int32 × mSt × mSt)} (hrec4 : ∀ (th : Int32) (ρ α : mSt) (v2 : Int32) (v3 : Int32), rec4 th ρ α v2 v3 = some q → ∀ (H : Heap) (locs : List Loc) (ls : Array Slot), mV D y (mFree 43 ad s.heap.size) s s.heap H locs 43 ad (mM y ad th ρ α) → lv_has ls 4 [(0, .ref (ad 42)), (1, .int a1), (2, .int v2), (3, .int v3)] → W p l e { frames := 1, cells := 0, slots := 0, locals := 21 } s m args below meth c H locs 0 0 (MQ below (mQ (some (.int q.1)) D 43 ad (mM y ad q.2.1 q.2.2.1 q.2.2.2) s.heap.size) args s 0 0 (mFree 43 ad s.heap.size)) (F0 m 4 ls [])) : ∀ (th : Int32) (ρ α : mSt) (v3 : Int32) (s0 : Int32), f_X7_running_58 N a1 rec4 th ρ α v3 s0 = some q → ∀ (H : Heap) (locs : List Loc) (ls : Array Slot), mV D y (mFree 43 ad s.heap.size) s s.heap H locs 43 ad (mM y ad th ρ α) → lv_has ls 4 [(0, .ref (ad 42)), (1, .int a1), (3, .int v3)] → W p l e { frames := 1, cells := 0, slots := 0, locals := 21 } s m args below meth c H locs 0 0 (MQ below (mQ (some (.int q.1)) D 43 ad (mM y ad q.2.1 q.2.2.1 q.2.2.2) s.heap.size) args s 0 0 (mFree 43 ad s.heap.size)) (F0 m 58 ls [.int s0]) := by
  obtain ⟨hx, hb, hml, hown, hts, hr, hlk⟩ := id hB
  intro th ρ α v3 s0 h H locs ls V hl
  rw [f_X7_running_58] at h
  refine lv_iconst (v := 1) hx hb dX7_running_58 (by decide) ?_
  refine lv_goto (tgt := 63) hx hb dX7_running_59 (by decide) ?_
  exact w_X7_running_63 Z hB hrec4 _ _ _ _ _ _ h _ _ _ V (lv_sub hl [0, 1, 2] rfl)
def f_X7_running_4 (N : Nat) (a1 : Int32)  : Nat → Int32 → mSt → mSt → Int32 → Int32 → Option (Int32 × Int32 × mSt × mSt)
  | 0, _, _, _, _, _ => none
  | n + 1, th, ρ, α, v2, v3 => if (2 * (ρ 22 0)) ≤ v3 then some (v2, th, ρ, α) else (f_X6_runs N ρ (v3 / 2)).bind fun q9 => if q9.1 = 0 then f_X7_running_62 N a1 (fun th ρ α v2 v3 => f_X7_running_4 N a1 n th ρ α v2 v3) th q9.2 α v3 v2 else if a1 = (-1) then if (v3 - v3 / 2 * 2) = 0 then f_X7_running_58 N a1 (fun th ρ α v2 v3 => f_X7_running_4 N a1 n th ρ α v2 v3) th q9.2 α v3 v2 else f_X7_running_62 N a1 (fun th ρ α v2 v3 => f_X7_running_4 N a1 n th ρ α v2 v3) th q9.2 α v3 v2 else if mIn v3 32 then if (q9.2 5 v3.toNatClampNeg) = a1 then f_X7_running_58 N a1 (fun th ρ α v2 v3 => f_X7_running_4 N a1 n th ρ α v2 v3) th q9.2 α v3 v2 else f_X7_running_62 N a1 (fun th ρ α v2 v3 => f_X7_running_4 N a1 n th ρ α v2 v3) th q9.2 α v3 v2 else none
set_option maxHeartbeats 4000000 in
set_option maxRecDepth 100000 in
theorem w_X7_running_4 {l : Launch} {D : va_G} {y : Nat → ClassId} {ad : Nat → Nat} {N : Nat} {p : Program} {e : Env} {s : State} {m : MethodId} {args : Array Value} {below : List Frame} {meth : Method} {c : Code} (Z : mN (mFree 43 ad s.heap.size) s) (hB : mBd p s m args meth c cX7_running 4 wsX7_running RX7 (some .int)) {a1 : Int32} {q : Int32 × Int32 × mSt × mSt}   : ∀ (n : Nat) (th : Int32) (ρ α : mSt) (v2 : Int32) (v3 : Int32), f_X7_running_4 N a1  n th ρ α v2 v3 = some q → ∀ (H : Heap) (locs : List Loc) (ls : Array Slot), mV D y (mFree 43 ad s.heap.size) s s.heap H locs 43 ad (mM y ad th ρ α) → lv_has ls 4 [(0, .ref (ad 42)), (1, .int a1), (2, .int v2), (3, .int v3)] → W p l e { frames := 1, cells := 0, slots := 0, locals := 21 } s m args below meth c H locs 0 0 (MQ below (mQ (some (.int q.1)) D 43 ad (mM y ad q.2.1 q.2.2.1 q.2.2.2) s.heap.size) args s 0 0 (mFree 43 ad s.heap.size)) (F0 m 4 ls []) := by
  obtain ⟨hx, hb, hml, hown, hts, hr, hlk⟩ := id hB
  intro n
  induction n with
  | zero =>
    intro th ρ α v2 v3 h
    exact nomatch h
  | succ n ih =>
    intro th ρ α v2 v3 h H locs ls V hl
    rw [f_X7_running_4] at h
    refine lv_iload_n hx hb dX7_running_4 rfl (lv_at hl 3 rfl) ?_
    refine lv_iconst (v := 2) hx hb dX7_running_5 (by decide) ?_
    refine lv_aload_n hx hb dX7_running_6 rfl (lv_at hl 0 rfl) ?_
    refine rM_s hx hb hts hown (fun _ h => List.mem_cons_of_mem _ (List.mem_append_left _ (List.mem_append_right _ h))) V (hts _ (List.mem_of_getElem? (i := 1) rfl)) dX7_running_7 ?_
    refine gM_T hx hb hts hown (fun _ h => List.mem_cons_of_mem _ (List.mem_append_right _ h)) V 7 (by decide) (mN_use (q := (51, "games", "I")) Z 6 rfl) (v := .int (ρ 22 0)) rfl dX7_running_10 ?_
    refine lv_imul hx hb dX7_running_13 ?_
    refine lv_icmp_ge (tgt := 71) hx hb dX7_running_14 (by decide) (fun hc8 => ?_) (fun hc8 => ?_)
    · replace h := ite_t hc8 h
      refine lv_iload_n hx hb dX7_running_71 rfl (lv_at hl 2 rfl) ?_
      obtain rfl := Option.some.inj h
      exact m_iret hx hb hr hlk V (Nat.zero_le _) (Nat.zero_le _) dX7_running_72
    · replace h := ite_f hc8 h
      refine lv_iload_n hx hb dX7_running_17 rfl (lv_at hl 2 rfl) ?_
      refine lv_aload_n hx hb dX7_running_18 rfl (lv_at hl 0 rfl) ?_
      refine rM_s hx hb hts hown (fun _ h => List.mem_cons_of_mem _ (List.mem_append_left _ (List.mem_append_right _ h))) V (hts _ (List.mem_of_getElem? (i := 1) rfl)) dX7_running_19 ?_
      refine lv_iload_n hx hb dX7_running_22 rfl (lv_at hl 3 rfl) ?_
      refine lv_iconst (v := 2) hx hb dX7_running_23 (by decide) ?_
      refine lv_idiv hx hb dX7_running_24 (by decide) ?_
      obtain ⟨q9, hq9, h⟩ := bd_s h
      refine kMR (As := [.int (v3 / 2)]) (rest := [.int v2]) ⟨hx, hb, hml, hown, hts⟩ V (c_X6_runs (l := l) (D := D) (y := y) (ad := ad) hq9) (cwV 1 hts gX7_running_X6_runs rfl rfl rfl (by decide +kernel) ⟨Nat.le_of_ble_eq_true rfl, Nat.le_of_ble_eq_true rfl⟩) (by omega) ((mM_0 y ad _ _ _ (by omega)).trans (mR_T y ad _)) rfl rfl hl.1 rfl (Nat.le_of_ble_eq_true rfl) ⟨Nat.zero_le _, Nat.zero_le _⟩ rfl dX7_running_25 (fun H locs V => ?_)
      refine lv_if_eq (tgt := 62) hx hb dX7_running_28 (by decide) (fun hc10 => ?_) (fun hc10 => ?_)
      · replace h := ite_t hc10 h
        exact w_X7_running_62 Z hB ih _ _ _ _ _ h _ _ _ V (lv_sub hl [0, 1, 3] rfl)
      · replace h := ite_f hc10 h
        refine lv_iload_n hx hb dX7_running_31 rfl (lv_at hl 1 rfl) ?_
        refine lv_iconst (v := (-1)) hx hb dX7_running_32 (by decide) ?_
        refine lv_icmp_ne (tgt := 45) hx hb dX7_running_33 (by decide) (fun hc11 => ?_) (fun hc11 => ?_)
        · replace h := ite_f hc11 h
          refine lv_aload_n hx hb dX7_running_45 rfl (lv_at hl 0 rfl) ?_
          refine rM_s hx hb hts hown (fun _ h => List.mem_cons_of_mem _ (List.mem_append_left _ (List.mem_append_right _ h))) V (hts _ (List.mem_of_getElem? (i := 1) rfl)) dX7_running_46 ?_
          refine gM_T hx hb hts hown (fun _ h => List.mem_cons_of_mem _ (List.mem_append_right _ h)) V 8 (by decide) (mN_use (q := (58, "player", "[I")) Z 7 rfl) (v := .ref (ad 6)) rfl dX7_running_49 ?_
          refine lv_iload_n hx hb dX7_running_52 rfl (lv_at hl 3 rfl) ?_
          obtain ⟨hi12, h⟩ := gd_s h
          refine aM_I hx hb V 5 6 32 (by decide) rfl rfl hi12 dX7_running_53 ?_
          refine lv_iload_n hx hb dX7_running_54 rfl (lv_at hl 1 rfl) ?_
          refine lv_icmp_ne (tgt := 62) hx hb dX7_running_55 (by decide) (fun hc13 => ?_) (fun hc13 => ?_)
          · replace h := ite_f hc13 h
            exact w_X7_running_62 Z hB ih _ _ _ _ _ h _ _ _ V (lv_sub hl [0, 1, 3] rfl)
          · replace h := ite_t hc13 h
            exact w_X7_running_58 Z hB ih _ _ _ _ _ h _ _ _ V (lv_sub hl [0, 1, 3] rfl)
        · replace h := ite_t hc11 h
          refine lv_iload_n hx hb dX7_running_36 rfl (lv_at hl 3 rfl) ?_
          refine lv_iconst (v := 2) hx hb dX7_running_37 (by decide) ?_
          refine lv_irem hx hb dX7_running_38 (by decide) ?_
          refine lv_if_ne (tgt := 62) hx hb dX7_running_39 (by decide) (fun hc14 => ?_) (fun hc14 => ?_)
          · replace h := ite_f hc14 h
            exact w_X7_running_62 Z hB ih _ _ _ _ _ h _ _ _ V (lv_sub hl [0, 1, 3] rfl)
          · replace h := ite_t hc14 h
            refine lv_goto (tgt := 58) hx hb dX7_running_42 (by decide) ?_
            exact w_X7_running_58 Z hB ih _ _ _ _ _ h _ _ _ V (lv_sub hl [0, 1, 3] rfl)
def f_X7_running (N : Nat) (th : Int32) (ρ α : mSt) (a1 : Int32) : Option (Int32 × Int32 × mSt × mSt) := f_X7_running_4 N a1 N th ρ α 0 0
set_option maxHeartbeats 4000000 in
set_option maxRecDepth 100000 in
theorem c_X7_running {l : Launch} {D : va_G} {y : Nat → ClassId} {ad : Nat → Nat} {N : Nat} {th : Int32} {ρ α : mSt} {a1 : Int32} {q : Int32 × Int32 × mSt × mSt} (h : f_X7_running N th ρ α a1 = some q) : mC l yX7_running wsX7_running { frames := 1, cells := 0, slots := 0, locals := 21 } D y 43 ad mN (mM y ad th ρ α) [.ref (ad 42), .int a1] (some (.int q.1)) (mM y ad q.2.1 q.2.2.1 q.2.2.2) 0 0 := by
  refine m_start (cc := cX7_running) (maxL := 4) (ret := (some .int)) (by decide) rfl (Nat.le_of_ble_eq_true rfl) (fun p e s m args below meth c ls hB _ V Z hl => ?_)
  obtain ⟨hx, hb, hml, hown, hts, hr, hlk⟩ := id hB
  have hl : lv_has ls 4 [(0, .ref (ad 42)), (1, .int a1)] := hl
  rw [f_X7_running] at h
  refine lv_iconst (v := 0) hx hb dX7_running_0 (by decide) ?_
  refine lv_istore_n (lv' := [(2, .int 0), (0, .ref (ad 42)), (1, .int a1)]) hx hb dX7_running_1 rfl hl (by decide) rfl (fun ls hl => ?_)
  refine lv_iconst (v := 0) hx hb dX7_running_2 (by decide) ?_
  refine lv_istore_n (lv' := [(3, .int 0), (2, .int 0), (0, .ref (ad 42)), (1, .int a1)]) hx hb dX7_running_3 rfl hl (by decide) rfl (fun ls hl => ?_)
  exact w_X7_running_4 Z hB _ _ _ _ _ _ h _ _ _ V (lv_sub hl [2, 3, 1, 0] rfl)
-- X7_playerTold
def f_X7_playerTold (N : Nat) (th : Int32) (ρ α : mSt) (a1 : Int32) (a2 : Int32) : Option (Int32 × Int32 × mSt × mSt) := if 2 ≤ a2 then if 5 ≤ a2 then if a2 = 5 then (f_X7_owedBy N th ρ α a1).bind fun q22 => some (q22.1, q22.2.1, q22.2.2.1, q22.2.2.2) else if a2 = 6 then (f_X7_loansOf N th ρ α a1 2).bind fun q21 => some (q21.1, q21.2.1, q21.2.2.1, q21.2.2.2) else if mIn a1 8 then some (ρ 4 a1.toNatClampNeg, th, ρ, α) else none else if a2 = 2 then (f_X7_running N th ρ α a1).bind fun q27 => some (q27.1, q27.2.1, q27.2.2.1, q27.2.2.2) else if a2 = 3 then if mIn a1 8 then some (ρ 2 a1.toNatClampNeg, th, ρ, α) else none else if mIn a1 8 then some (ρ 3 a1.toNatClampNeg, th, ρ, α) else none else if a2 = 0 then if mIn a1 8 then some (ρ 0 a1.toNatClampNeg, th, ρ, α) else none else if mIn a1 8 then some (ρ 1 a1.toNatClampNeg, th, ρ, α) else none
set_option maxHeartbeats 4000000 in
set_option maxRecDepth 100000 in
theorem c_X7_playerTold {l : Launch} {D : va_G} {y : Nat → ClassId} {ad : Nat → Nat} {N : Nat} {th : Int32} {ρ α : mSt} {a1 : Int32} {a2 : Int32} {q : Int32 × Int32 × mSt × mSt} (h : f_X7_playerTold N th ρ α a1 a2 = some q) : mC l yX7_playerTold wsX7_playerTold { frames := 2, cells := 0, slots := 0, locals := 44 } D y 43 ad mN (mM y ad th ρ α) [.ref (ad 42), .int a1, .int a2] (some (.int q.1)) (mM y ad q.2.1 q.2.2.1 q.2.2.2) 0 0 := by
  refine m_start (cc := cX7_playerTold) (maxL := 3) (ret := (some .int)) (by decide) rfl (Nat.le_of_ble_eq_true rfl) (fun p e s m args below meth c ls hB _ V Z hl => ?_)
  obtain ⟨hx, hb, hml, hown, hts, hr, hlk⟩ := id hB
  have hl : lv_has ls 3 [(0, .ref (ad 42)), (1, .int a1), (2, .int a2)] := hl
  rw [f_X7_playerTold] at h
  refine lv_iload_n hx hb dX7_playerTold_0 rfl (lv_at hl 2 rfl) ?_
  refine lv_iconst (v := 2) hx hb dX7_playerTold_1 (by decide) ?_
  refine lv_icmp_ge (tgt := 31) hx hb dX7_playerTold_2 (by decide) (fun hc16 => ?_) (fun hc16 => ?_)
  · replace h := ite_t hc16 h
    refine lv_iload_n hx hb dX7_playerTold_31 rfl (lv_at hl 2 rfl) ?_
    refine lv_iconst (v := 5) hx hb dX7_playerTold_32 (by decide) ?_
    refine lv_icmp_ge (tgt := 76) hx hb dX7_playerTold_33 (by decide) (fun hc17 => ?_) (fun hc17 => ?_)
    · replace h := ite_t hc17 h
      refine lv_iload_n hx hb dX7_playerTold_76 rfl (lv_at hl 2 rfl) ?_
      refine lv_iconst (v := 5) hx hb dX7_playerTold_77 (by decide) ?_
      refine lv_icmp_ne (tgt := 89) hx hb dX7_playerTold_78 (by decide) (fun hc18 => ?_) (fun hc18 => ?_)
      · replace h := ite_f hc18 h
        refine lv_iload_n hx hb dX7_playerTold_89 rfl (lv_at hl 2 rfl) ?_
        refine lv_bipush (v := 6) hx hb dX7_playerTold_90 (by decide) ?_
        refine lv_icmp_ne (tgt := 104) hx hb dX7_playerTold_92 (by decide) (fun hc19 => ?_) (fun hc19 => ?_)
        · replace h := ite_f hc19 h
          refine lv_aload_n hx hb dX7_playerTold_104 rfl (lv_at hl 0 rfl) ?_
          refine rM_s hx hb hts hown (fun _ h => List.mem_cons_of_mem _ (List.mem_append_left _ (List.mem_append_right _ h))) V (hts _ (List.mem_of_getElem? (i := 1) rfl)) dX7_playerTold_105 ?_
          refine gM_T hx hb hts hown (fun _ h => List.mem_cons_of_mem _ (List.mem_append_right _ h)) V 6 (by decide) (mN_use (q := (80, "caught", "[I")) Z 11 rfl) (v := .ref (ad 5)) rfl dX7_playerTold_108 ?_
          refine lv_iload_n hx hb dX7_playerTold_111 rfl (lv_at hl 1 rfl) ?_
          obtain ⟨hi20, h⟩ := gd_s h
          refine aM_I hx hb V 4 5 8 (by decide) rfl rfl hi20 dX7_playerTold_112 ?_
          obtain rfl := Option.some.inj h
          exact m_iret hx hb hr hlk V (Nat.zero_le _) (Nat.zero_le _) dX7_playerTold_113
        · replace h := ite_t hc19 h
          refine lv_aload_n hx hb dX7_playerTold_95 rfl (lv_at hl 0 rfl) ?_
          refine lv_iload_n hx hb dX7_playerTold_96 rfl (lv_at hl 1 rfl) ?_
          refine lv_iconst (v := 2) hx hb dX7_playerTold_97 (by decide) ?_
          obtain ⟨q21, hq21, h⟩ := bd_s h
          refine kMM (As := [.int a1, .int 2]) (rest := []) ⟨hx, hb, hml, hown, hts⟩ Z V (c_X7_loansOf (l := l) (D := D) (y := y) (ad := ad) hq21) (cwV 2 hts gX7_playerTold_X7_loansOf rfl rfl rfl (by decide +kernel) ⟨Nat.le_of_ble_eq_true rfl, Nat.le_of_ble_eq_true rfl⟩) (by omega) (mM_m y ad _ _ _) rfl rfl hl.1 rfl (Nat.le_of_ble_eq_true rfl) ⟨Nat.zero_le _, Nat.zero_le _⟩ rfl dX7_playerTold_98 (fun H locs V => ?_)
          refine lv_goto (tgt := 113) hx hb dX7_playerTold_101 (by decide) ?_
          obtain rfl := Option.some.inj h
          exact m_iret hx hb hr hlk V (Nat.zero_le _) (Nat.zero_le _) dX7_playerTold_113
      · replace h := ite_t hc18 h
        refine lv_aload_n hx hb dX7_playerTold_81 rfl (lv_at hl 0 rfl) ?_
        refine lv_iload_n hx hb dX7_playerTold_82 rfl (lv_at hl 1 rfl) ?_
        obtain ⟨q22, hq22, h⟩ := bd_s h
        refine kMM (As := [.int a1]) (rest := []) ⟨hx, hb, hml, hown, hts⟩ Z V (c_X7_owedBy (l := l) (D := D) (y := y) (ad := ad) hq22) (cwV 1 hts gX7_playerTold_X7_owedBy rfl rfl rfl (by decide +kernel) ⟨Nat.le_of_ble_eq_true rfl, Nat.le_of_ble_eq_true rfl⟩) (by omega) (mM_m y ad _ _ _) rfl rfl hl.1 rfl (Nat.le_of_ble_eq_true rfl) ⟨Nat.zero_le _, Nat.zero_le _⟩ rfl dX7_playerTold_83 (fun H locs V => ?_)
        refine lv_goto (tgt := 113) hx hb dX7_playerTold_86 (by decide) ?_
        obtain rfl := Option.some.inj h
        exact m_iret hx hb hr hlk V (Nat.zero_le _) (Nat.zero_le _) dX7_playerTold_113
    · replace h := ite_f hc17 h
      refine lv_iload_n hx hb dX7_playerTold_36 rfl (lv_at hl 2 rfl) ?_
      refine lv_iconst (v := 2) hx hb dX7_playerTold_37 (by decide) ?_
      refine lv_icmp_ne (tgt := 49) hx hb dX7_playerTold_38 (by decide) (fun hc23 => ?_) (fun hc23 => ?_)
      · replace h := ite_f hc23 h
        refine lv_iload_n hx hb dX7_playerTold_49 rfl (lv_at hl 2 rfl) ?_
        refine lv_iconst (v := 3) hx hb dX7_playerTold_50 (by decide) ?_
        refine lv_icmp_ne (tgt := 66) hx hb dX7_playerTold_51 (by decide) (fun hc24 => ?_) (fun hc24 => ?_)
        · replace h := ite_f hc24 h
          refine lv_aload_n hx hb dX7_playerTold_66 rfl (lv_at hl 0 rfl) ?_
          refine rM_s hx hb hts hown (fun _ h => List.mem_cons_of_mem _ (List.mem_append_left _ (List.mem_append_right _ h))) V (hts _ (List.mem_of_getElem? (i := 1) rfl)) dX7_playerTold_67 ?_
          refine gM_T hx hb hts hown (fun _ h => List.mem_cons_of_mem _ (List.mem_append_right _ h)) V 5 (by decide) (mN_use (q := (70, "lost", "[I")) Z 10 rfl) (v := .ref (ad 4)) rfl dX7_playerTold_70 ?_
          refine lv_iload_n hx hb dX7_playerTold_73 rfl (lv_at hl 1 rfl) ?_
          obtain ⟨hi25, h⟩ := gd_s h
          refine aM_I hx hb V 3 4 8 (by decide) rfl rfl hi25 dX7_playerTold_74 ?_
          obtain rfl := Option.some.inj h
          exact m_iret hx hb hr hlk V (Nat.zero_le _) (Nat.zero_le _) dX7_playerTold_75
        · replace h := ite_t hc24 h
          refine lv_aload_n hx hb dX7_playerTold_54 rfl (lv_at hl 0 rfl) ?_
          refine rM_s hx hb hts hown (fun _ h => List.mem_cons_of_mem _ (List.mem_append_left _ (List.mem_append_right _ h))) V (hts _ (List.mem_of_getElem? (i := 1) rfl)) dX7_playerTold_55 ?_
          refine gM_T hx hb hts hown (fun _ h => List.mem_cons_of_mem _ (List.mem_append_right _ h)) V 4 (by decide) (mN_use (q := (67, "won", "[I")) Z 9 rfl) (v := .ref (ad 3)) rfl dX7_playerTold_58 ?_
          refine lv_iload_n hx hb dX7_playerTold_61 rfl (lv_at hl 1 rfl) ?_
          obtain ⟨hi26, h⟩ := gd_s h
          refine aM_I hx hb V 2 3 8 (by decide) rfl rfl hi26 dX7_playerTold_62 ?_
          refine lv_goto (tgt := 75) hx hb dX7_playerTold_63 (by decide) ?_
          obtain rfl := Option.some.inj h
          exact m_iret hx hb hr hlk V (Nat.zero_le _) (Nat.zero_le _) dX7_playerTold_75
      · replace h := ite_t hc23 h
        refine lv_aload_n hx hb dX7_playerTold_41 rfl (lv_at hl 0 rfl) ?_
        refine lv_iload_n hx hb dX7_playerTold_42 rfl (lv_at hl 1 rfl) ?_
        obtain ⟨q27, hq27, h⟩ := bd_s h
        refine kMM (As := [.int a1]) (rest := []) ⟨hx, hb, hml, hown, hts⟩ Z V (c_X7_running (l := l) (D := D) (y := y) (ad := ad) hq27) (cwV 1 hts gX7_playerTold_X7_running rfl rfl rfl (by decide +kernel) ⟨Nat.le_of_ble_eq_true rfl, Nat.le_of_ble_eq_true rfl⟩) (by omega) (mM_m y ad _ _ _) rfl rfl hl.1 rfl (Nat.le_of_ble_eq_true rfl) ⟨Nat.zero_le _, Nat.zero_le _⟩ rfl dX7_playerTold_43 (fun H locs V => ?_)
        refine lv_goto (tgt := 75) hx hb dX7_playerTold_46 (by decide) ?_
        obtain rfl := Option.some.inj h
        exact m_iret hx hb hr hlk V (Nat.zero_le _) (Nat.zero_le _) dX7_playerTold_75
  · replace h := ite_f hc16 h
    refine lv_iload_n hx hb dX7_playerTold_5 rfl (lv_at hl 2 rfl) ?_
    refine lv_if_ne (tgt := 21) hx hb dX7_playerTold_6 (by decide) (fun hc28 => ?_) (fun hc28 => ?_)
    · replace h := ite_f hc28 h
      refine lv_aload_n hx hb dX7_playerTold_21 rfl (lv_at hl 0 rfl) ?_
      refine rM_s hx hb hts hown (fun _ h => List.mem_cons_of_mem _ (List.mem_append_left _ (List.mem_append_right _ h))) V (hts _ (List.mem_of_getElem? (i := 1) rfl)) dX7_playerTold_22 ?_
      refine gM_T hx hb hts hown (fun _ h => List.mem_cons_of_mem _ (List.mem_append_right _ h)) V 3 (by decide) (mN_use (q := (61, "pocket", "[I")) Z 8 rfl) (v := .ref (ad 2)) rfl dX7_playerTold_25 ?_
      refine lv_iload_n hx hb dX7_playerTold_28 rfl (lv_at hl 1 rfl) ?_
      obtain ⟨hi29, h⟩ := gd_s h
      refine aM_I hx hb V 1 2 8 (by decide) rfl rfl hi29 dX7_playerTold_29 ?_
      obtain rfl := Option.some.inj h
      exact m_iret hx hb hr hlk V (Nat.zero_le _) (Nat.zero_le _) dX7_playerTold_30
    · replace h := ite_t hc28 h
      refine lv_aload_n hx hb dX7_playerTold_9 rfl (lv_at hl 0 rfl) ?_
      refine rM_s hx hb hts hown (fun _ h => List.mem_cons_of_mem _ (List.mem_append_left _ (List.mem_append_right _ h))) V (hts _ (List.mem_of_getElem? (i := 1) rfl)) dX7_playerTold_10 ?_
      refine gM_T hx hb hts hown (fun _ h => List.mem_cons_of_mem _ (List.mem_append_right _ h)) V 2 (by decide) (mN_use (q := (35, "coins", "[I")) Z 1 rfl) (v := .ref (ad 1)) rfl dX7_playerTold_13 ?_
      refine lv_iload_n hx hb dX7_playerTold_16 rfl (lv_at hl 1 rfl) ?_
      obtain ⟨hi30, h⟩ := gd_s h
      refine aM_I hx hb V 0 1 8 (by decide) rfl rfl hi30 dX7_playerTold_17 ?_
      refine lv_goto (tgt := 30) hx hb dX7_playerTold_18 (by decide) ?_
      obtain rfl := Option.some.inj h
      exact m_iret hx hb hr hlk V (Nat.zero_le _) (Nat.zero_le _) dX7_playerTold_30
-- X7_player
def f_X7_player (N : Nat) (th : Int32) (ρ α : mSt) (a1 : Int32) (a2 : Int32) : Option (Int32 × Int32 × mSt × mSt) := (f_X7_isPlayer N 0 ρ α a1).bind fun q8 => if q8.1 = 0 then (f_X7_no N q8.2.1 q8.2.2.1 q8.2.2.2 1).bind fun q10 => some (q10.1, q10.2.1, q10.2.2.1, q10.2.2.2) else (f_X7_isIn N q8.2.1 q8.2.2.1 q8.2.2.2 a2 0 7).bind fun q11 => if q11.1 = 0 then (f_X7_no N q11.2.1 q11.2.2.1 q11.2.2.2 1).bind fun q13 => some (q13.1, q13.2.1, q13.2.2.1, q13.2.2.2) else (f_X7_playerTold N q11.2.1 q11.2.2.1 q11.2.2.2 a1 a2).bind fun q14 => some (q14.1, q14.2.1, q14.2.2.1, q14.2.2.2)
set_option maxHeartbeats 4000000 in
set_option maxRecDepth 100000 in
theorem c_X7_player {l : Launch} {D : va_G} {y : Nat → ClassId} {ad : Nat → Nat} {N : Nat} {th : Int32} {ρ α : mSt} {a1 : Int32} {a2 : Int32} {q : Int32 × Int32 × mSt × mSt} (h : f_X7_player N th ρ α a1 a2 = some q) : mC l yX7_player wsX7_player { frames := 3, cells := 0, slots := 0, locals := 66 } D y 43 ad mN (mM y ad th ρ α) [.ref (ad 42), .int a1, .int a2] (some (.int q.1)) (mM y ad q.2.1 q.2.2.1 q.2.2.2) 0 0 := by
  refine m_start (cc := cX7_player) (maxL := 3) (ret := (some .int)) (by decide) rfl (Nat.le_of_ble_eq_true rfl) (fun p e s m args below meth c ls hB _ V Z hl => ?_)
  obtain ⟨hx, hb, hml, hown, hts, hr, hlk⟩ := id hB
  have hl : lv_has ls 3 [(0, .ref (ad 42)), (1, .int a1), (2, .int a2)] := hl
  rw [f_X7_player] at h
  refine lv_aload_n hx hb dX7_player_0 rfl (lv_at hl 0 rfl) ?_
  refine lv_iconst (v := 0) hx hb dX7_player_1 (by decide) ?_
  refine pM_th hx hb hts hown (fun _ h => List.mem_cons_of_mem _ (List.mem_append_left _ (List.mem_append_right _ h))) V (hts _ (List.mem_of_getElem? (i := 1) rfl)) dX7_player_2 (fun H locs V => ?_)
  refine lv_aload_n hx hb dX7_player_5 rfl (lv_at hl 0 rfl) ?_
  refine lv_iload_n hx hb dX7_player_6 rfl (lv_at hl 1 rfl) ?_
  obtain ⟨q8, hq8, h⟩ := bd_s h
  refine kMM (As := [.int a1]) (rest := []) ⟨hx, hb, hml, hown, hts⟩ Z V (c_X7_isPlayer (l := l) (D := D) (y := y) (ad := ad) hq8) (cwV 1 hts gX7_player_X7_isPlayer rfl rfl rfl (by decide +kernel) ⟨Nat.le_of_ble_eq_true rfl, Nat.le_of_ble_eq_true rfl⟩) (by omega) (mM_m y ad _ _ _) rfl rfl hl.1 rfl (Nat.le_of_ble_eq_true rfl) ⟨Nat.zero_le _, Nat.zero_le _⟩ rfl dX7_player_7 (fun H locs V => ?_)
  refine lv_if_eq (tgt := 32) hx hb dX7_player_10 (by decide) (fun hc9 => ?_) (fun hc9 => ?_)
  · replace h := ite_t hc9 h
    refine lv_aload_n hx hb dX7_player_32 rfl (lv_at hl 0 rfl) ?_
    refine lv_iconst (v := 1) hx hb dX7_player_33 (by decide) ?_
    obtain ⟨q10, hq10, h⟩ := bd_s h
    refine kMM (As := [.int 1]) (rest := []) ⟨hx, hb, hml, hown, hts⟩ Z V (c_X7_no (l := l) (D := D) (y := y) (ad := ad) hq10) (cwV 1 hts gX7_player_X7_no rfl rfl rfl (by decide +kernel) ⟨Nat.le_of_ble_eq_true rfl, Nat.le_of_ble_eq_true rfl⟩) (by omega) (mM_m y ad _ _ _) rfl rfl hl.1 rfl (Nat.le_of_ble_eq_true rfl) ⟨Nat.zero_le _, Nat.zero_le _⟩ rfl dX7_player_34 (fun H locs V => ?_)
    obtain rfl := Option.some.inj h
    exact m_iret hx hb hr hlk V (Nat.zero_le _) (Nat.zero_le _) dX7_player_37
  · replace h := ite_f hc9 h
    refine lv_iload_n hx hb dX7_player_13 rfl (lv_at hl 2 rfl) ?_
    refine lv_iconst (v := 0) hx hb dX7_player_14 (by decide) ?_
    refine lv_bipush (v := 7) hx hb dX7_player_15 (by decide) ?_
    obtain ⟨q11, hq11, h⟩ := bd_s h
    refine kMMs (As := [.int a2, .int 0, .int 7]) (rest := []) ⟨hx, hb, hml, hown, hts⟩ Z V (c_X7_isIn (l := l) (D := D) (y := y) (ad := ad) hq11) (va_cwS 3 hts gX7_player_X7_isIn rfl rfl rfl (by decide +kernel) ⟨Nat.le_of_ble_eq_true rfl, Nat.le_of_ble_eq_true rfl⟩) rfl hl.1 rfl (Nat.le_of_ble_eq_true rfl) ⟨Nat.zero_le _, Nat.zero_le _⟩ rfl dX7_player_17 (fun H locs V => ?_)
    refine lv_if_eq (tgt := 32) hx hb dX7_player_20 (by decide) (fun hc12 => ?_) (fun hc12 => ?_)
    · replace h := ite_t hc12 h
      refine lv_aload_n hx hb dX7_player_32 rfl (lv_at hl 0 rfl) ?_
      refine lv_iconst (v := 1) hx hb dX7_player_33 (by decide) ?_
      obtain ⟨q13, hq13, h⟩ := bd_s h
      refine kMM (As := [.int 1]) (rest := []) ⟨hx, hb, hml, hown, hts⟩ Z V (c_X7_no (l := l) (D := D) (y := y) (ad := ad) hq13) (cwV 1 hts gX7_player_X7_no rfl rfl rfl (by decide +kernel) ⟨Nat.le_of_ble_eq_true rfl, Nat.le_of_ble_eq_true rfl⟩) (by omega) (mM_m y ad _ _ _) rfl rfl hl.1 rfl (Nat.le_of_ble_eq_true rfl) ⟨Nat.zero_le _, Nat.zero_le _⟩ rfl dX7_player_34 (fun H locs V => ?_)
      obtain rfl := Option.some.inj h
      exact m_iret hx hb hr hlk V (Nat.zero_le _) (Nat.zero_le _) dX7_player_37
    · replace h := ite_f hc12 h
      refine lv_aload_n hx hb dX7_player_23 rfl (lv_at hl 0 rfl) ?_
      refine lv_iload_n hx hb dX7_player_24 rfl (lv_at hl 1 rfl) ?_
      refine lv_iload_n hx hb dX7_player_25 rfl (lv_at hl 2 rfl) ?_
      obtain ⟨q14, hq14, h⟩ := bd_s h
      refine kMM (As := [.int a1, .int a2]) (rest := []) ⟨hx, hb, hml, hown, hts⟩ Z V (c_X7_playerTold (l := l) (D := D) (y := y) (ad := ad) hq14) (cwV 2 hts gX7_player_X7_playerTold rfl rfl rfl (by decide +kernel) ⟨Nat.le_of_ble_eq_true rfl, Nat.le_of_ble_eq_true rfl⟩) (by omega) (mM_m y ad _ _ _) rfl rfl hl.1 rfl (Nat.le_of_ble_eq_true rfl) ⟨Nat.zero_le _, Nat.zero_le _⟩ rfl dX7_player_26 (fun H locs V => ?_)
      refine lv_goto (tgt := 37) hx hb dX7_player_29 (by decide) ?_
      obtain rfl := Option.some.inj h
      exact m_iret hx hb hr hlk V (Nat.zero_le _) (Nat.zero_le _) dX7_player_37
-- X7_buy
def f_X7_buy (N : Nat) (th : Int32) (ρ α : mSt) (a1 : Int32) (a2 : Int32) : Option (Int32 × Int32 × mSt × mSt) := (f_X7_isPlayer N 0 ρ α a1).bind fun q16 => if q16.1 = 0 then (f_X7_no N q16.2.1 q16.2.2.1 q16.2.2.2 1).bind fun q30 => some (q30.1, q30.2.1, q30.2.2.1, q30.2.2.2) else (f_X7_isIn N q16.2.1 q16.2.2.1 q16.2.2.2 a2 1 10000).bind fun q18 => if q18.1 = 0 then (f_X7_no N q18.2.1 q18.2.2.1 q18.2.2.2 2).bind fun q29 => some (q29.1, q29.2.1, q29.2.2.1, q29.2.2.2) else (f_X6_price N q18.2.2.1).bind fun q20 => if (q20.2 24 0) < a2 then (f_X7_no N q18.2.1 q20.2 q18.2.2.2 3).bind fun q22 => some (q22.1, q22.2.1, q22.2.2.1, q22.2.2.2) else if mIn a1 8 then if (((a2 * q20.1) / 10) + 1) ≤ (q20.2 0 a1.toNatClampNeg) then (f_X6_goBack N (mUp (mUp (mUp q20.2 0 a1.toNatClampNeg ((q20.2 0 a1.toNatClampNeg) - (((a2 * q20.1) / 10) + 1))) 25 0 (((mUp q20.2 0 a1.toNatClampNeg ((q20.2 0 a1.toNatClampNeg) - (((a2 * q20.1) / 10) + 1))) 25 0) + (((a2 * q20.1) / 10) + 1))) 1 a1.toNatClampNeg (((mUp (mUp q20.2 0 a1.toNatClampNeg ((q20.2 0 a1.toNatClampNeg) - (((a2 * q20.1) / 10) + 1))) 25 0 (((mUp q20.2 0 a1.toNatClampNeg ((q20.2 0 a1.toNatClampNeg) - (((a2 * q20.1) / 10) + 1))) 25 0) + (((a2 * q20.1) / 10) + 1))) 1 a1.toNatClampNeg) + a2)) (-a2)).bind fun q27 => some (((a2 * q20.1) / 10) + 1, q18.2.1, q27.2, q18.2.2.2) else (f_X7_no N q18.2.1 q20.2 q18.2.2.2 3).bind fun q28 => some (q28.1, q28.2.1, q28.2.2.1, q28.2.2.2) else none
set_option maxHeartbeats 4000000 in
set_option maxRecDepth 100000 in
theorem c_X7_buy {l : Launch} {D : va_G} {y : Nat → ClassId} {ad : Nat → Nat} {N : Nat} {th : Int32} {ρ α : mSt} {a1 : Int32} {a2 : Int32} {q : Int32 × Int32 × mSt × mSt} (h : f_X7_buy N th ρ α a1 a2 = some q) : mC l yX7_buy wsX7_buy { frames := 2, cells := 0, slots := 0, locals := 43 } D y 43 ad mN (mM y ad th ρ α) [.ref (ad 42), .int a1, .int a2] (some (.int q.1)) (mM y ad q.2.1 q.2.2.1 q.2.2.2) 0 0 := by
  refine m_start (cc := cX7_buy) (maxL := 4) (ret := (some .int)) (by decide) rfl (Nat.le_of_ble_eq_true rfl) (fun p e s m args below meth c ls hB _ V Z hl => ?_)
  obtain ⟨hx, hb, hml, hown, hts, hr, hlk⟩ := id hB
  have hl : lv_has ls 4 [(0, .ref (ad 42)), (1, .int a1), (2, .int a2)] := hl
  rw [f_X7_buy] at h
  refine lv_aload_n hx hb dX7_buy_0 rfl (lv_at hl 0 rfl) ?_
  refine lv_iconst (v := 0) hx hb dX7_buy_1 (by decide) ?_
  refine pM_th hx hb hts hown (fun _ h => List.mem_cons_of_mem _ (List.mem_append_left _ (List.mem_append_right _ h))) V (hts _ (List.mem_of_getElem? (i := 1) rfl)) dX7_buy_2 (fun H locs V => ?_)
  refine lv_aload_n hx hb dX7_buy_5 rfl (lv_at hl 0 rfl) ?_
  refine lv_iload_n hx hb dX7_buy_6 rfl (lv_at hl 1 rfl) ?_
  obtain ⟨q16, hq16, h⟩ := bd_s h
  refine kMM (As := [.int a1]) (rest := []) ⟨hx, hb, hml, hown, hts⟩ Z V (c_X7_isPlayer (l := l) (D := D) (y := y) (ad := ad) hq16) (cwV 1 hts gX7_buy_X7_isPlayer rfl rfl rfl (by decide +kernel) ⟨Nat.le_of_ble_eq_true rfl, Nat.le_of_ble_eq_true rfl⟩) (by omega) (mM_m y ad _ _ _) rfl rfl hl.1 rfl (Nat.le_of_ble_eq_true rfl) ⟨Nat.zero_le _, Nat.zero_le _⟩ rfl dX7_buy_7 (fun H locs V => ?_)
  refine lv_if_ne (tgt := 19) hx hb dX7_buy_10 (by decide) (fun hc17 => ?_) (fun hc17 => ?_)
  · replace h := ite_f hc17 h
    refine lv_iload_n hx hb dX7_buy_19 rfl (lv_at hl 2 rfl) ?_
    refine lv_iconst (v := 1) hx hb dX7_buy_20 (by decide) ?_
    refine lv_sipush (v := 10000) hx hb dX7_buy_21 (by decide) ?_
    obtain ⟨q18, hq18, h⟩ := bd_s h
    refine kMMs (As := [.int a2, .int 1, .int 10000]) (rest := []) ⟨hx, hb, hml, hown, hts⟩ Z V (c_X7_isIn (l := l) (D := D) (y := y) (ad := ad) hq18) (va_cwS 3 hts gX7_buy_X7_isIn rfl rfl rfl (by decide +kernel) ⟨Nat.le_of_ble_eq_true rfl, Nat.le_of_ble_eq_true rfl⟩) rfl hl.1 rfl (Nat.le_of_ble_eq_true rfl) ⟨Nat.zero_le _, Nat.zero_le _⟩ rfl dX7_buy_24 (fun H locs V => ?_)
    refine lv_if_ne (tgt := 36) hx hb dX7_buy_27 (by decide) (fun hc19 => ?_) (fun hc19 => ?_)
    · replace h := ite_f hc19 h
      refine lv_iload_n hx hb dX7_buy_36 rfl (lv_at hl 2 rfl) ?_
      refine lv_aload_n hx hb dX7_buy_37 rfl (lv_at hl 0 rfl) ?_
      refine rM_s hx hb hts hown (fun _ h => List.mem_cons_of_mem _ (List.mem_append_left _ (List.mem_append_right _ h))) V (hts _ (List.mem_of_getElem? (i := 2) rfl)) dX7_buy_38 ?_
      obtain ⟨q20, hq20, h⟩ := bd_s h
      refine kMR (As := []) (rest := [.int a2]) ⟨hx, hb, hml, hown, hts⟩ V (c_X6_price (l := l) (D := D) (y := y) (ad := ad) hq20) (cwV 0 hts gX7_buy_X6_price rfl rfl rfl (by decide +kernel) ⟨Nat.le_of_ble_eq_true rfl, Nat.le_of_ble_eq_true rfl⟩) (by omega) ((mM_0 y ad _ _ _ (by omega)).trans (mR_T y ad _)) rfl rfl hl.1 rfl (Nat.le_of_ble_eq_true rfl) ⟨Nat.zero_le _, Nat.zero_le _⟩ rfl dX7_buy_41 (fun H locs V => ?_)
      refine lv_imul hx hb dX7_buy_44 ?_
      refine lv_bipush (v := 10) hx hb dX7_buy_45 (by decide) ?_
      refine lv_idiv hx hb dX7_buy_47 (by decide) ?_
      refine lv_iconst (v := 1) hx hb dX7_buy_48 (by decide) ?_
      refine lv_iadd hx hb dX7_buy_49 ?_
      refine lv_istore_n (lv' := [(3, .int (((a2 * q20.1) / 10) + 1)), (0, .ref (ad 42)), (1, .int a1), (2, .int a2)]) hx hb dX7_buy_50 rfl hl (by decide) rfl (fun ls hl => ?_)
      refine lv_iload_n hx hb dX7_buy_51 rfl (lv_at hl 3 rfl) ?_
      refine lv_aload_n hx hb dX7_buy_52 rfl (lv_at hl 1 rfl) ?_
      refine rM_s hx hb hts hown (fun _ h => List.mem_cons_of_mem _ (List.mem_append_left _ (List.mem_append_right _ h))) V (hts _ (List.mem_of_getElem? (i := 2) rfl)) dX7_buy_53 ?_
      refine gM_T hx hb hts hown (fun _ h => List.mem_cons_of_mem _ (List.mem_append_right _ h)) V 24 (by decide) (mN_use (q := (93, "reserve", "I")) Z 12 rfl) (v := .int (q20.2 24 0)) rfl dX7_buy_56 ?_
      refine lv_icmp_gt (tgt := 75) hx hb dX7_buy_59 (by decide) (fun hc21 => ?_) (fun hc21 => ?_)
      · replace h := ite_t hc21 h
        refine lv_aload_n hx hb dX7_buy_75 rfl (lv_at hl 1 rfl) ?_
        refine lv_iconst (v := 3) hx hb dX7_buy_76 (by decide) ?_
        obtain ⟨q22, hq22, h⟩ := bd_s h
        refine kMM (As := [.int 3]) (rest := []) ⟨hx, hb, hml, hown, hts⟩ Z V (c_X7_no (l := l) (D := D) (y := y) (ad := ad) hq22) (cwV 1 hts gX7_buy_X7_no rfl rfl rfl (by decide +kernel) ⟨Nat.le_of_ble_eq_true rfl, Nat.le_of_ble_eq_true rfl⟩) (by omega) (mM_m y ad _ _ _) rfl rfl hl.1 rfl (Nat.le_of_ble_eq_true rfl) ⟨Nat.zero_le _, Nat.zero_le _⟩ rfl dX7_buy_77 (fun H locs V => ?_)
        obtain rfl := Option.some.inj h
        exact m_iret hx hb hr hlk V (Nat.zero_le _) (Nat.zero_le _) dX7_buy_80
      · replace h := ite_f hc21 h
        refine lv_iload_n hx hb dX7_buy_62 rfl (lv_at hl 0 rfl) ?_
        refine lv_aload_n hx hb dX7_buy_63 rfl (lv_at hl 1 rfl) ?_
        refine rM_s hx hb hts hown (fun _ h => List.mem_cons_of_mem _ (List.mem_append_left _ (List.mem_append_right _ h))) V (hts _ (List.mem_of_getElem? (i := 2) rfl)) dX7_buy_64 ?_
        refine gM_T hx hb hts hown (fun _ h => List.mem_cons_of_mem _ (List.mem_append_right _ h)) V 2 (by decide) (mN_use (q := (35, "coins", "[I")) Z 1 rfl) (v := .ref (ad 1)) rfl dX7_buy_67 ?_
        refine lv_iload_n hx hb dX7_buy_70 rfl (lv_at hl 2 rfl) ?_
        obtain ⟨hi23, h⟩ := gd_s h
        refine aM_I hx hb V 0 1 8 (by decide) rfl rfl hi23 dX7_buy_71 ?_
        refine lv_icmp_le (tgt := 81) hx hb dX7_buy_72 (by decide) (fun hc24 => ?_) (fun hc24 => ?_)
        · replace h := ite_t hc24 h
          refine lv_aload_n hx hb dX7_buy_81 rfl (lv_at hl 1 rfl) ?_
          refine rM_s hx hb hts hown (fun _ h => List.mem_cons_of_mem _ (List.mem_append_left _ (List.mem_append_right _ h))) V (hts _ (List.mem_of_getElem? (i := 2) rfl)) dX7_buy_82 ?_
          refine gM_T hx hb hts hown (fun _ h => List.mem_cons_of_mem _ (List.mem_append_right _ h)) V 2 (by decide) (mN_use (q := (35, "coins", "[I")) Z 1 rfl) (v := .ref (ad 1)) rfl dX7_buy_85 ?_
          refine lv_iload_n hx hb dX7_buy_88 rfl (lv_at hl 2 rfl) ?_
          refine lv_dup2_11 hx hb dX7_buy_89 rfl rfl ?_
          refine aM_I hx hb V 0 1 8 (by decide) rfl rfl hi23 dX7_buy_90 ?_
          refine lv_iload_n hx hb dX7_buy_91 rfl (lv_at hl 0 rfl) ?_
          refine lv_isub hx hb dX7_buy_92 ?_
          refine bM_I hx hb V 0 1 8 (by decide) rfl rfl hi23 dX7_buy_93 (fun H locs V => ?_)
          refine lv_aload_n hx hb dX7_buy_94 rfl (lv_at hl 1 rfl) ?_
          refine rM_s hx hb hts hown (fun _ h => List.mem_cons_of_mem _ (List.mem_append_left _ (List.mem_append_right _ h))) V (hts _ (List.mem_of_getElem? (i := 2) rfl)) dX7_buy_95 ?_
          refine lv_dup hx hb dX7_buy_98 rfl ?_
          refine gM_T hx hb hts hown (fun _ h => List.mem_cons_of_mem _ (List.mem_append_right _ h)) V 25 (by decide) (mN_use (q := (96, "bank", "I")) Z 13 rfl) (v := .int ((mUp q20.2 0 a1.toNatClampNeg ((q20.2 0 a1.toNatClampNeg) - (((a2 * q20.1) / 10) + 1))) 25 0)) rfl dX7_buy_99 ?_
          refine lv_iload_n hx hb dX7_buy_102 rfl (lv_at hl 0 rfl) ?_
          refine lv_iadd hx hb dX7_buy_103 ?_
          refine pM_T hx hb hts hown (fun _ h => List.mem_cons_of_mem _ (List.mem_append_right _ h)) V 25 25 (by decide) (by decide) (mN_use (q := (96, "bank", "I")) Z 13 rfl) rfl (mR0_s25 _ _ _) dX7_buy_104 (fun H locs V => ?_)
          refine lv_aload_n hx hb dX7_buy_107 rfl (lv_at hl 1 rfl) ?_
          refine rM_s hx hb hts hown (fun _ h => List.mem_cons_of_mem _ (List.mem_append_left _ (List.mem_append_right _ h))) V (hts _ (List.mem_of_getElem? (i := 2) rfl)) dX7_buy_108 ?_
          refine gM_T hx hb hts hown (fun _ h => List.mem_cons_of_mem _ (List.mem_append_right _ h)) V 3 (by decide) (mN_use (q := (61, "pocket", "[I")) Z 8 rfl) (v := .ref (ad 2)) rfl dX7_buy_111 ?_
          refine lv_iload_n hx hb dX7_buy_114 rfl (lv_at hl 2 rfl) ?_
          refine lv_dup2_11 hx hb dX7_buy_115 rfl rfl ?_
          refine aM_I hx hb V 1 2 8 (by decide) rfl rfl hi23 dX7_buy_116 ?_
          refine lv_iload_n hx hb dX7_buy_117 rfl (lv_at hl 3 rfl) ?_
          refine lv_iadd hx hb dX7_buy_118 ?_
          refine bM_I hx hb V 1 2 8 (by decide) rfl rfl hi23 dX7_buy_119 (fun H locs V => ?_)
          refine lv_aload_n hx hb dX7_buy_120 rfl (lv_at hl 1 rfl) ?_
          refine rM_s hx hb hts hown (fun _ h => List.mem_cons_of_mem _ (List.mem_append_left _ (List.mem_append_right _ h))) V (hts _ (List.mem_of_getElem? (i := 2) rfl)) dX7_buy_121 ?_
          refine lv_iload_n hx hb dX7_buy_124 rfl (lv_at hl 3 rfl) ?_
          refine lv_ineg hx hb dX7_buy_125 ?_
          obtain ⟨q27, hq27, h⟩ := bd_s h
          refine kMR (As := [.int (-a2)]) (rest := []) ⟨hx, hb, hml, hown, hts⟩ V (c_X6_goBack (l := l) (D := D) (y := y) (ad := ad) hq27) (cwV 1 hts gX7_buy_X6_goBack rfl rfl rfl (by decide +kernel) ⟨Nat.le_of_ble_eq_true rfl, Nat.le_of_ble_eq_true rfl⟩) (by omega) ((mM_0 y ad _ _ _ (by omega)).trans (mR_T y ad _)) rfl rfl hl.1 rfl (Nat.le_of_ble_eq_true rfl) ⟨Nat.zero_le _, Nat.zero_le _⟩ rfl dX7_buy_126 (fun H locs V => ?_)
          refine lv_iload_n hx hb dX7_buy_129 rfl (lv_at hl 0 rfl) ?_
          obtain rfl := Option.some.inj h
          exact m_iret hx hb hr hlk V (Nat.zero_le _) (Nat.zero_le _) dX7_buy_130
        · replace h := ite_f hc24 h
          refine lv_aload_n hx hb dX7_buy_75 rfl (lv_at hl 1 rfl) ?_
          refine lv_iconst (v := 3) hx hb dX7_buy_76 (by decide) ?_
          obtain ⟨q28, hq28, h⟩ := bd_s h
          refine kMM (As := [.int 3]) (rest := []) ⟨hx, hb, hml, hown, hts⟩ Z V (c_X7_no (l := l) (D := D) (y := y) (ad := ad) hq28) (cwV 1 hts gX7_buy_X7_no rfl rfl rfl (by decide +kernel) ⟨Nat.le_of_ble_eq_true rfl, Nat.le_of_ble_eq_true rfl⟩) (by omega) (mM_m y ad _ _ _) rfl rfl hl.1 rfl (Nat.le_of_ble_eq_true rfl) ⟨Nat.zero_le _, Nat.zero_le _⟩ rfl dX7_buy_77 (fun H locs V => ?_)
          obtain rfl := Option.some.inj h
          exact m_iret hx hb hr hlk V (Nat.zero_le _) (Nat.zero_le _) dX7_buy_80
    · replace h := ite_t hc19 h
      refine lv_aload_n hx hb dX7_buy_30 rfl (lv_at hl 0 rfl) ?_
      refine lv_iconst (v := 2) hx hb dX7_buy_31 (by decide) ?_
      obtain ⟨q29, hq29, h⟩ := bd_s h
      refine kMM (As := [.int 2]) (rest := []) ⟨hx, hb, hml, hown, hts⟩ Z V (c_X7_no (l := l) (D := D) (y := y) (ad := ad) hq29) (cwV 1 hts gX7_buy_X7_no rfl rfl rfl (by decide +kernel) ⟨Nat.le_of_ble_eq_true rfl, Nat.le_of_ble_eq_true rfl⟩) (by omega) (mM_m y ad _ _ _) rfl rfl hl.1 rfl (Nat.le_of_ble_eq_true rfl) ⟨Nat.zero_le _, Nat.zero_le _⟩ rfl dX7_buy_32 (fun H locs V => ?_)
      obtain rfl := Option.some.inj h
      exact m_iret hx hb hr hlk V (Nat.zero_le _) (Nat.zero_le _) dX7_buy_35
  · replace h := ite_t hc17 h
    refine lv_aload_n hx hb dX7_buy_13 rfl (lv_at hl 0 rfl) ?_
    refine lv_iconst (v := 1) hx hb dX7_buy_14 (by decide) ?_
    obtain ⟨q30, hq30, h⟩ := bd_s h
    refine kMM (As := [.int 1]) (rest := []) ⟨hx, hb, hml, hown, hts⟩ Z V (c_X7_no (l := l) (D := D) (y := y) (ad := ad) hq30) (cwV 1 hts gX7_buy_X7_no rfl rfl rfl (by decide +kernel) ⟨Nat.le_of_ble_eq_true rfl, Nat.le_of_ble_eq_true rfl⟩) (by omega) (mM_m y ad _ _ _) rfl rfl hl.1 rfl (Nat.le_of_ble_eq_true rfl) ⟨Nat.zero_le _, Nat.zero_le _⟩ rfl dX7_buy_15 (fun H locs V => ?_)
    obtain rfl := Option.some.inj h
    exact m_iret hx hb hr hlk V (Nat.zero_le _) (Nat.zero_le _) dX7_buy_18
-- X7_sell
def f_X7_sell (N : Nat) (th : Int32) (ρ α : mSt) (a1 : Int32) (a2 : Int32) : Option (Int32 × Int32 × mSt × mSt) := (f_X7_isPlayer N 0 ρ α a1).bind fun q16 => if q16.1 = 0 then (f_X7_no N q16.2.1 q16.2.2.1 q16.2.2.2 1).bind fun q30 => some (q30.1, q30.2.1, q30.2.2.1, q30.2.2.2) else (f_X7_isIn N q16.2.1 q16.2.2.1 q16.2.2.2 a2 1 10000).bind fun q18 => if q18.1 = 0 then (f_X7_no N q18.2.1 q18.2.2.1 q18.2.2.2 2).bind fun q29 => some (q29.1, q29.2.1, q29.2.2.1, q29.2.2.2) else (f_X6_price N q18.2.2.1).bind fun q20 => if mIn a1 8 then if (q20.2 1 a1.toNatClampNeg) < a2 then (f_X7_no N q18.2.1 q20.2 q18.2.2.2 3).bind fun q23 => some (q23.1, q23.2.1, q23.2.2.1, q23.2.2.2) else if ((a2 * q20.1) / 20) ≤ (q20.2 25 0) then (f_X6_goBack N (mUp (mUp (mUp q20.2 0 a1.toNatClampNeg ((q20.2 0 a1.toNatClampNeg) + ((a2 * q20.1) / 20))) 25 0 (((mUp q20.2 0 a1.toNatClampNeg ((q20.2 0 a1.toNatClampNeg) + ((a2 * q20.1) / 20))) 25 0) - ((a2 * q20.1) / 20))) 1 a1.toNatClampNeg (((mUp (mUp q20.2 0 a1.toNatClampNeg ((q20.2 0 a1.toNatClampNeg) + ((a2 * q20.1) / 20))) 25 0 (((mUp q20.2 0 a1.toNatClampNeg ((q20.2 0 a1.toNatClampNeg) + ((a2 * q20.1) / 20))) 25 0) - ((a2 * q20.1) / 20))) 1 a1.toNatClampNeg) - a2)) a2).bind fun q27 => some ((a2 * q20.1) / 20, q18.2.1, q27.2, q18.2.2.2) else (f_X7_no N q18.2.1 q20.2 q18.2.2.2 3).bind fun q28 => some (q28.1, q28.2.1, q28.2.2.1, q28.2.2.2) else none
set_option maxHeartbeats 4000000 in
set_option maxRecDepth 100000 in
theorem c_X7_sell {l : Launch} {D : va_G} {y : Nat → ClassId} {ad : Nat → Nat} {N : Nat} {th : Int32} {ρ α : mSt} {a1 : Int32} {a2 : Int32} {q : Int32 × Int32 × mSt × mSt} (h : f_X7_sell N th ρ α a1 a2 = some q) : mC l yX7_sell wsX7_sell { frames := 2, cells := 0, slots := 0, locals := 43 } D y 43 ad mN (mM y ad th ρ α) [.ref (ad 42), .int a1, .int a2] (some (.int q.1)) (mM y ad q.2.1 q.2.2.1 q.2.2.2) 0 0 := by
  refine m_start (cc := cX7_sell) (maxL := 4) (ret := (some .int)) (by decide) rfl (Nat.le_of_ble_eq_true rfl) (fun p e s m args below meth c ls hB _ V Z hl => ?_)
  obtain ⟨hx, hb, hml, hown, hts, hr, hlk⟩ := id hB
  have hl : lv_has ls 4 [(0, .ref (ad 42)), (1, .int a1), (2, .int a2)] := hl
  rw [f_X7_sell] at h
  refine lv_aload_n hx hb dX7_sell_0 rfl (lv_at hl 0 rfl) ?_
  refine lv_iconst (v := 0) hx hb dX7_sell_1 (by decide) ?_
  refine pM_th hx hb hts hown (fun _ h => List.mem_cons_of_mem _ (List.mem_append_left _ (List.mem_append_right _ h))) V (hts _ (List.mem_of_getElem? (i := 1) rfl)) dX7_sell_2 (fun H locs V => ?_)
  refine lv_aload_n hx hb dX7_sell_5 rfl (lv_at hl 0 rfl) ?_
  refine lv_iload_n hx hb dX7_sell_6 rfl (lv_at hl 1 rfl) ?_
  obtain ⟨q16, hq16, h⟩ := bd_s h
  refine kMM (As := [.int a1]) (rest := []) ⟨hx, hb, hml, hown, hts⟩ Z V (c_X7_isPlayer (l := l) (D := D) (y := y) (ad := ad) hq16) (cwV 1 hts gX7_sell_X7_isPlayer rfl rfl rfl (by decide +kernel) ⟨Nat.le_of_ble_eq_true rfl, Nat.le_of_ble_eq_true rfl⟩) (by omega) (mM_m y ad _ _ _) rfl rfl hl.1 rfl (Nat.le_of_ble_eq_true rfl) ⟨Nat.zero_le _, Nat.zero_le _⟩ rfl dX7_sell_7 (fun H locs V => ?_)
  refine lv_if_ne (tgt := 19) hx hb dX7_sell_10 (by decide) (fun hc17 => ?_) (fun hc17 => ?_)
  · replace h := ite_f hc17 h
    refine lv_iload_n hx hb dX7_sell_19 rfl (lv_at hl 2 rfl) ?_
    refine lv_iconst (v := 1) hx hb dX7_sell_20 (by decide) ?_
    refine lv_sipush (v := 10000) hx hb dX7_sell_21 (by decide) ?_
    obtain ⟨q18, hq18, h⟩ := bd_s h
    refine kMMs (As := [.int a2, .int 1, .int 10000]) (rest := []) ⟨hx, hb, hml, hown, hts⟩ Z V (c_X7_isIn (l := l) (D := D) (y := y) (ad := ad) hq18) (va_cwS 3 hts gX7_sell_X7_isIn rfl rfl rfl (by decide +kernel) ⟨Nat.le_of_ble_eq_true rfl, Nat.le_of_ble_eq_true rfl⟩) rfl hl.1 rfl (Nat.le_of_ble_eq_true rfl) ⟨Nat.zero_le _, Nat.zero_le _⟩ rfl dX7_sell_24 (fun H locs V => ?_)
    refine lv_if_ne (tgt := 36) hx hb dX7_sell_27 (by decide) (fun hc19 => ?_) (fun hc19 => ?_)
    · replace h := ite_f hc19 h
      refine lv_iload_n hx hb dX7_sell_36 rfl (lv_at hl 2 rfl) ?_
      refine lv_aload_n hx hb dX7_sell_37 rfl (lv_at hl 0 rfl) ?_
      refine rM_s hx hb hts hown (fun _ h => List.mem_cons_of_mem _ (List.mem_append_left _ (List.mem_append_right _ h))) V (hts _ (List.mem_of_getElem? (i := 2) rfl)) dX7_sell_38 ?_
      obtain ⟨q20, hq20, h⟩ := bd_s h
      refine kMR (As := []) (rest := [.int a2]) ⟨hx, hb, hml, hown, hts⟩ V (c_X6_price (l := l) (D := D) (y := y) (ad := ad) hq20) (cwV 0 hts gX7_sell_X6_price rfl rfl rfl (by decide +kernel) ⟨Nat.le_of_ble_eq_true rfl, Nat.le_of_ble_eq_true rfl⟩) (by omega) ((mM_0 y ad _ _ _ (by omega)).trans (mR_T y ad _)) rfl rfl hl.1 rfl (Nat.le_of_ble_eq_true rfl) ⟨Nat.zero_le _, Nat.zero_le _⟩ rfl dX7_sell_41 (fun H locs V => ?_)
      refine lv_imul hx hb dX7_sell_44 ?_
      refine lv_bipush (v := 20) hx hb dX7_sell_45 (by decide) ?_
      refine lv_idiv hx hb dX7_sell_47 (by decide) ?_
      refine lv_istore_n (lv' := [(3, .int ((a2 * q20.1) / 20)), (0, .ref (ad 42)), (1, .int a1), (2, .int a2)]) hx hb dX7_sell_48 rfl hl (by decide) rfl (fun ls hl => ?_)
      refine lv_iload_n hx hb dX7_sell_49 rfl (lv_at hl 3 rfl) ?_
      refine lv_aload_n hx hb dX7_sell_50 rfl (lv_at hl 1 rfl) ?_
      refine rM_s hx hb hts hown (fun _ h => List.mem_cons_of_mem _ (List.mem_append_left _ (List.mem_append_right _ h))) V (hts _ (List.mem_of_getElem? (i := 2) rfl)) dX7_sell_51 ?_
      refine gM_T hx hb hts hown (fun _ h => List.mem_cons_of_mem _ (List.mem_append_right _ h)) V 3 (by decide) (mN_use (q := (61, "pocket", "[I")) Z 8 rfl) (v := .ref (ad 2)) rfl dX7_sell_54 ?_
      refine lv_iload_n hx hb dX7_sell_57 rfl (lv_at hl 2 rfl) ?_
      obtain ⟨hi21, h⟩ := gd_s h
      refine aM_I hx hb V 1 2 8 (by decide) rfl rfl hi21 dX7_sell_58 ?_
      refine lv_icmp_gt (tgt := 73) hx hb dX7_sell_59 (by decide) (fun hc22 => ?_) (fun hc22 => ?_)
      · replace h := ite_t hc22 h
        refine lv_aload_n hx hb dX7_sell_73 rfl (lv_at hl 1 rfl) ?_
        refine lv_iconst (v := 3) hx hb dX7_sell_74 (by decide) ?_
        obtain ⟨q23, hq23, h⟩ := bd_s h
        refine kMM (As := [.int 3]) (rest := []) ⟨hx, hb, hml, hown, hts⟩ Z V (c_X7_no (l := l) (D := D) (y := y) (ad := ad) hq23) (cwV 1 hts gX7_sell_X7_no rfl rfl rfl (by decide +kernel) ⟨Nat.le_of_ble_eq_true rfl, Nat.le_of_ble_eq_true rfl⟩) (by omega) (mM_m y ad _ _ _) rfl rfl hl.1 rfl (Nat.le_of_ble_eq_true rfl) ⟨Nat.zero_le _, Nat.zero_le _⟩ rfl dX7_sell_75 (fun H locs V => ?_)
        obtain rfl := Option.some.inj h
        exact m_iret hx hb hr hlk V (Nat.zero_le _) (Nat.zero_le _) dX7_sell_78
      · replace h := ite_f hc22 h
        refine lv_iload_n hx hb dX7_sell_62 rfl (lv_at hl 0 rfl) ?_
        refine lv_aload_n hx hb dX7_sell_63 rfl (lv_at hl 1 rfl) ?_
        refine rM_s hx hb hts hown (fun _ h => List.mem_cons_of_mem _ (List.mem_append_left _ (List.mem_append_right _ h))) V (hts _ (List.mem_of_getElem? (i := 2) rfl)) dX7_sell_64 ?_
        refine gM_T hx hb hts hown (fun _ h => List.mem_cons_of_mem _ (List.mem_append_right _ h)) V 25 (by decide) (mN_use (q := (96, "bank", "I")) Z 13 rfl) (v := .int (q20.2 25 0)) rfl dX7_sell_67 ?_
        refine lv_icmp_le (tgt := 79) hx hb dX7_sell_70 (by decide) (fun hc24 => ?_) (fun hc24 => ?_)
        · replace h := ite_t hc24 h
          refine lv_aload_n hx hb dX7_sell_79 rfl (lv_at hl 1 rfl) ?_
          refine rM_s hx hb hts hown (fun _ h => List.mem_cons_of_mem _ (List.mem_append_left _ (List.mem_append_right _ h))) V (hts _ (List.mem_of_getElem? (i := 2) rfl)) dX7_sell_80 ?_
          refine gM_T hx hb hts hown (fun _ h => List.mem_cons_of_mem _ (List.mem_append_right _ h)) V 2 (by decide) (mN_use (q := (35, "coins", "[I")) Z 1 rfl) (v := .ref (ad 1)) rfl dX7_sell_83 ?_
          refine lv_iload_n hx hb dX7_sell_86 rfl (lv_at hl 2 rfl) ?_
          refine lv_dup2_11 hx hb dX7_sell_87 rfl rfl ?_
          refine aM_I hx hb V 0 1 8 (by decide) rfl rfl hi21 dX7_sell_88 ?_
          refine lv_iload_n hx hb dX7_sell_89 rfl (lv_at hl 0 rfl) ?_
          refine lv_iadd hx hb dX7_sell_90 ?_
          refine bM_I hx hb V 0 1 8 (by decide) rfl rfl hi21 dX7_sell_91 (fun H locs V => ?_)
          refine lv_aload_n hx hb dX7_sell_92 rfl (lv_at hl 1 rfl) ?_
          refine rM_s hx hb hts hown (fun _ h => List.mem_cons_of_mem _ (List.mem_append_left _ (List.mem_append_right _ h))) V (hts _ (List.mem_of_getElem? (i := 2) rfl)) dX7_sell_93 ?_
          refine lv_dup hx hb dX7_sell_96 rfl ?_
          refine gM_T hx hb hts hown (fun _ h => List.mem_cons_of_mem _ (List.mem_append_right _ h)) V 25 (by decide) (mN_use (q := (96, "bank", "I")) Z 13 rfl) (v := .int ((mUp q20.2 0 a1.toNatClampNeg ((q20.2 0 a1.toNatClampNeg) + ((a2 * q20.1) / 20))) 25 0)) rfl dX7_sell_97 ?_
          refine lv_iload_n hx hb dX7_sell_100 rfl (lv_at hl 0 rfl) ?_
          refine lv_isub hx hb dX7_sell_101 ?_
          refine pM_T hx hb hts hown (fun _ h => List.mem_cons_of_mem _ (List.mem_append_right _ h)) V 25 25 (by decide) (by decide) (mN_use (q := (96, "bank", "I")) Z 13 rfl) rfl (mR0_s25 _ _ _) dX7_sell_102 (fun H locs V => ?_)
          refine lv_aload_n hx hb dX7_sell_105 rfl (lv_at hl 1 rfl) ?_
          refine rM_s hx hb hts hown (fun _ h => List.mem_cons_of_mem _ (List.mem_append_left _ (List.mem_append_right _ h))) V (hts _ (List.mem_of_getElem? (i := 2) rfl)) dX7_sell_106 ?_
          refine gM_T hx hb hts hown (fun _ h => List.mem_cons_of_mem _ (List.mem_append_right _ h)) V 3 (by decide) (mN_use (q := (61, "pocket", "[I")) Z 8 rfl) (v := .ref (ad 2)) rfl dX7_sell_109 ?_
          refine lv_iload_n hx hb dX7_sell_112 rfl (lv_at hl 2 rfl) ?_
          refine lv_dup2_11 hx hb dX7_sell_113 rfl rfl ?_
          refine aM_I hx hb V 1 2 8 (by decide) rfl rfl hi21 dX7_sell_114 ?_
          refine lv_iload_n hx hb dX7_sell_115 rfl (lv_at hl 3 rfl) ?_
          refine lv_isub hx hb dX7_sell_116 ?_
          refine bM_I hx hb V 1 2 8 (by decide) rfl rfl hi21 dX7_sell_117 (fun H locs V => ?_)
          refine lv_aload_n hx hb dX7_sell_118 rfl (lv_at hl 1 rfl) ?_
          refine rM_s hx hb hts hown (fun _ h => List.mem_cons_of_mem _ (List.mem_append_left _ (List.mem_append_right _ h))) V (hts _ (List.mem_of_getElem? (i := 2) rfl)) dX7_sell_119 ?_
          refine lv_iload_n hx hb dX7_sell_122 rfl (lv_at hl 3 rfl) ?_
          obtain ⟨q27, hq27, h⟩ := bd_s h
          refine kMR (As := [.int a2]) (rest := []) ⟨hx, hb, hml, hown, hts⟩ V (c_X6_goBack (l := l) (D := D) (y := y) (ad := ad) hq27) (cwV 1 hts gX7_sell_X6_goBack rfl rfl rfl (by decide +kernel) ⟨Nat.le_of_ble_eq_true rfl, Nat.le_of_ble_eq_true rfl⟩) (by omega) ((mM_0 y ad _ _ _ (by omega)).trans (mR_T y ad _)) rfl rfl hl.1 rfl (Nat.le_of_ble_eq_true rfl) ⟨Nat.zero_le _, Nat.zero_le _⟩ rfl dX7_sell_123 (fun H locs V => ?_)
          refine lv_iload_n hx hb dX7_sell_126 rfl (lv_at hl 0 rfl) ?_
          obtain rfl := Option.some.inj h
          exact m_iret hx hb hr hlk V (Nat.zero_le _) (Nat.zero_le _) dX7_sell_127
        · replace h := ite_f hc24 h
          refine lv_aload_n hx hb dX7_sell_73 rfl (lv_at hl 1 rfl) ?_
          refine lv_iconst (v := 3) hx hb dX7_sell_74 (by decide) ?_
          obtain ⟨q28, hq28, h⟩ := bd_s h
          refine kMM (As := [.int 3]) (rest := []) ⟨hx, hb, hml, hown, hts⟩ Z V (c_X7_no (l := l) (D := D) (y := y) (ad := ad) hq28) (cwV 1 hts gX7_sell_X7_no rfl rfl rfl (by decide +kernel) ⟨Nat.le_of_ble_eq_true rfl, Nat.le_of_ble_eq_true rfl⟩) (by omega) (mM_m y ad _ _ _) rfl rfl hl.1 rfl (Nat.le_of_ble_eq_true rfl) ⟨Nat.zero_le _, Nat.zero_le _⟩ rfl dX7_sell_75 (fun H locs V => ?_)
          obtain rfl := Option.some.inj h
          exact m_iret hx hb hr hlk V (Nat.zero_le _) (Nat.zero_le _) dX7_sell_78
    · replace h := ite_t hc19 h
      refine lv_aload_n hx hb dX7_sell_30 rfl (lv_at hl 0 rfl) ?_
      refine lv_iconst (v := 2) hx hb dX7_sell_31 (by decide) ?_
      obtain ⟨q29, hq29, h⟩ := bd_s h
      refine kMM (As := [.int 2]) (rest := []) ⟨hx, hb, hml, hown, hts⟩ Z V (c_X7_no (l := l) (D := D) (y := y) (ad := ad) hq29) (cwV 1 hts gX7_sell_X7_no rfl rfl rfl (by decide +kernel) ⟨Nat.le_of_ble_eq_true rfl, Nat.le_of_ble_eq_true rfl⟩) (by omega) (mM_m y ad _ _ _) rfl rfl hl.1 rfl (Nat.le_of_ble_eq_true rfl) ⟨Nat.zero_le _, Nat.zero_le _⟩ rfl dX7_sell_32 (fun H locs V => ?_)
      obtain rfl := Option.some.inj h
      exact m_iret hx hb hr hlk V (Nat.zero_le _) (Nat.zero_le _) dX7_sell_35
  · replace h := ite_t hc17 h
    refine lv_aload_n hx hb dX7_sell_13 rfl (lv_at hl 0 rfl) ?_
    refine lv_iconst (v := 1) hx hb dX7_sell_14 (by decide) ?_
    obtain ⟨q30, hq30, h⟩ := bd_s h
    refine kMM (As := [.int 1]) (rest := []) ⟨hx, hb, hml, hown, hts⟩ Z V (c_X7_no (l := l) (D := D) (y := y) (ad := ad) hq30) (cwV 1 hts gX7_sell_X7_no rfl rfl rfl (by decide +kernel) ⟨Nat.le_of_ble_eq_true rfl, Nat.le_of_ble_eq_true rfl⟩) (by omega) (mM_m y ad _ _ _) rfl rfl hl.1 rfl (Nat.le_of_ble_eq_true rfl) ⟨Nat.zero_le _, Nat.zero_le _⟩ rfl dX7_sell_15 (fun H locs V => ?_)
    obtain rfl := Option.some.inj h
    exact m_iret hx hb hr hlk V (Nat.zero_le _) (Nat.zero_le _) dX7_sell_18
-- X7_borrow
def f_X7_borrow (N : Nat) (th : Int32) (ρ α : mSt) (a1 : Int32) (a2 : Int32) (a3 : Int32) (a4 : Int32) : Option (Int32 × Int32 × mSt × mSt) := (f_X7_isPlayer N 0 ρ α a1).bind fun q26 => if q26.1 = 0 then (f_X7_no N q26.2.1 q26.2.2.1 q26.2.2.2 1).bind fun q50 => some (q50.1, q50.2.1, q50.2.2.1, q50.2.2.2) else (f_X7_isIn N q26.2.1 q26.2.2.1 q26.2.2.2 a2 1 5000).bind fun q28 => if q28.1 = 0 then (f_X7_no N q28.2.1 q28.2.2.1 q28.2.2.2 2).bind fun q30 => some (q30.1, q30.2.1, q30.2.2.1, q30.2.2.2) else (f_X7_isIn N q28.2.1 q28.2.2.1 q28.2.2.2 a3 0 100).bind fun q31 => if q31.1 = 0 then (f_X7_no N q31.2.1 q31.2.2.1 q31.2.2.2 2).bind fun q33 => some (q33.1, q33.2.1, q33.2.2.1, q33.2.2.2) else (f_X7_isIn N q31.2.1 q31.2.2.1 q31.2.2.2 a4 1 3600).bind fun q34 => if q34.1 = 0 then (f_X7_no N q34.2.1 q34.2.2.1 q34.2.2.2 2).bind fun q49 => some (q49.1, q49.2.1, q49.2.2.1, q49.2.2.2) else if (q34.2.2.1 24 0) < a2 then (f_X7_no N q34.2.1 q34.2.2.1 q34.2.2.2 3).bind fun q37 => some (q37.1, q37.2.1, q37.2.2.1, q37.2.2.2) else (f_X7_loansOf N q34.2.1 q34.2.2.1 q34.2.2.2 a1 2).bind fun q38 => if 0 < q38.1 then (f_X7_no N q38.2.1 q38.2.2.1 q38.2.2.2 3).bind fun q40 => some (q40.1, q40.2.1, q40.2.2.1, q40.2.2.2) else (f_X7_loansOf N q38.2.1 q38.2.2.1 q38.2.2.2 a1 0).bind fun q41 => if 2 < q41.1 then (f_X7_no N q41.2.1 q41.2.2.1 q41.2.2.2 3).bind fun q43 => some (q43.1, q43.2.1, q43.2.2.1, q43.2.2.2) else if (q41.2.2.1 23 0) = 20 then (f_X7_no N q41.2.1 q41.2.2.1 q41.2.2.2 3).bind fun q48 => some (q48.1, q48.2.1, q48.2.2.1, q48.2.2.2) else if mIn (q41.2.2.1 23 0) 20 then if mIn a1 8 then (f_X6_goBack N (mUp (mUp (mUp (mUp (mUp (mUp (mUp q41.2.2.1 15 (q41.2.2.1 23 0).toNatClampNeg a1) 16 (q41.2.2.1 23 0).toNatClampNeg a2) 17 (q41.2.2.1 23 0).toNatClampNeg a3) 18 (q41.2.2.1 23 0).toNatClampNeg (((mUp (mUp (mUp q41.2.2.1 15 (q41.2.2.1 23 0).toNatClampNeg a1) 16 (q41.2.2.1 23 0).toNatClampNeg a2) 17 (q41.2.2.1 23 0).toNatClampNeg a3) 20 0) + a4)) 19 (q41.2.2.1 23 0).toNatClampNeg 0) 23 0 (((mUp (mUp (mUp (mUp (mUp q41.2.2.1 15 (q41.2.2.1 23 0).toNatClampNeg a1) 16 (q41.2.2.1 23 0).toNatClampNeg a2) 17 (q41.2.2.1 23 0).toNatClampNeg a3) 18 (q41.2.2.1 23 0).toNatClampNeg (((mUp (mUp (mUp q41.2.2.1 15 (q41.2.2.1 23 0).toNatClampNeg a1) 16 (q41.2.2.1 23 0).toNatClampNeg a2) 17 (q41.2.2.1 23 0).toNatClampNeg a3) 20 0) + a4)) 19 (q41.2.2.1 23 0).toNatClampNeg 0) 23 0) + 1)) 1 a1.toNatClampNeg (((mUp (mUp (mUp (mUp (mUp (mUp q41.2.2.1 15 (q41.2.2.1 23 0).toNatClampNeg a1) 16 (q41.2.2.1 23 0).toNatClampNeg a2) 17 (q41.2.2.1 23 0).toNatClampNeg a3) 18 (q41.2.2.1 23 0).toNatClampNeg (((mUp (mUp (mUp q41.2.2.1 15 (q41.2.2.1 23 0).toNatClampNeg a1) 16 (q41.2.2.1 23 0).toNatClampNeg a2) 17 (q41.2.2.1 23 0).toNatClampNeg a3) 20 0) + a4)) 19 (q41.2.2.1 23 0).toNatClampNeg 0) 23 0 (((mUp (mUp (mUp (mUp (mUp q41.2.2.1 15 (q41.2.2.1 23 0).toNatClampNeg a1) 16 (q41.2.2.1 23 0).toNatClampNeg a2) 17 (q41.2.2.1 23 0).toNatClampNeg a3) 18 (q41.2.2.1 23 0).toNatClampNeg (((mUp (mUp (mUp q41.2.2.1 15 (q41.2.2.1 23 0).toNatClampNeg a1) 16 (q41.2.2.1 23 0).toNatClampNeg a2) 17 (q41.2.2.1 23 0).toNatClampNeg a3) 20 0) + a4)) 19 (q41.2.2.1 23 0).toNatClampNeg 0) 23 0) + 1)) 1 a1.toNatClampNeg) + a2)) (-a2)).bind fun q47 => some (q41.2.2.1 23 0, q41.2.1, q47.2, q41.2.2.2) else none else none
set_option maxHeartbeats 4000000 in
set_option maxRecDepth 100000 in
theorem c_X7_borrow {l : Launch} {D : va_G} {y : Nat → ClassId} {ad : Nat → Nat} {N : Nat} {th : Int32} {ρ α : mSt} {a1 : Int32} {a2 : Int32} {a3 : Int32} {a4 : Int32} {q : Int32 × Int32 × mSt × mSt} (h : f_X7_borrow N th ρ α a1 a2 a3 a4 = some q) : mC l yX7_borrow wsX7_borrow { frames := 2, cells := 0, slots := 0, locals := 43 } D y 43 ad mN (mM y ad th ρ α) [.ref (ad 42), .int a1, .int a2, .int a3, .int a4] (some (.int q.1)) (mM y ad q.2.1 q.2.2.1 q.2.2.2) 0 0 := by
  refine m_start (cc := cX7_borrow) (maxL := 6) (ret := (some .int)) (by decide) rfl (Nat.le_of_ble_eq_true rfl) (fun p e s m args below meth c ls hB _ V Z hl => ?_)
  obtain ⟨hx, hb, hml, hown, hts, hr, hlk⟩ := id hB
  have hl : lv_has ls 6 [(0, .ref (ad 42)), (1, .int a1), (2, .int a2), (3, .int a3), (4, .int a4)] := hl
  rw [f_X7_borrow] at h
  refine lv_aload_n hx hb dX7_borrow_0 rfl (lv_at hl 0 rfl) ?_
  refine lv_iconst (v := 0) hx hb dX7_borrow_1 (by decide) ?_
  refine pM_th hx hb hts hown (fun _ h => List.mem_cons_of_mem _ (List.mem_append_left _ (List.mem_append_right _ h))) V (hts _ (List.mem_of_getElem? (i := 1) rfl)) dX7_borrow_2 (fun H locs V => ?_)
  refine lv_aload_n hx hb dX7_borrow_5 rfl (lv_at hl 0 rfl) ?_
  refine lv_iload_n hx hb dX7_borrow_6 rfl (lv_at hl 1 rfl) ?_
  obtain ⟨q26, hq26, h⟩ := bd_s h
  refine kMM (As := [.int a1]) (rest := []) ⟨hx, hb, hml, hown, hts⟩ Z V (c_X7_isPlayer (l := l) (D := D) (y := y) (ad := ad) hq26) (cwV 1 hts gX7_borrow_X7_isPlayer rfl rfl rfl (by decide +kernel) ⟨Nat.le_of_ble_eq_true rfl, Nat.le_of_ble_eq_true rfl⟩) (by omega) (mM_m y ad _ _ _) rfl rfl hl.1 rfl (Nat.le_of_ble_eq_true rfl) ⟨Nat.zero_le _, Nat.zero_le _⟩ rfl dX7_borrow_7 (fun H locs V => ?_)
  refine lv_if_ne (tgt := 19) hx hb dX7_borrow_10 (by decide) (fun hc27 => ?_) (fun hc27 => ?_)
  · replace h := ite_f hc27 h
    refine lv_iload_n hx hb dX7_borrow_19 rfl (lv_at hl 2 rfl) ?_
    refine lv_iconst (v := 1) hx hb dX7_borrow_20 (by decide) ?_
    refine lv_sipush (v := 5000) hx hb dX7_borrow_21 (by decide) ?_
    obtain ⟨q28, hq28, h⟩ := bd_s h
    refine kMMs (As := [.int a2, .int 1, .int 5000]) (rest := []) ⟨hx, hb, hml, hown, hts⟩ Z V (c_X7_isIn (l := l) (D := D) (y := y) (ad := ad) hq28) (va_cwS 3 hts gX7_borrow_X7_isIn rfl rfl rfl (by decide +kernel) ⟨Nat.le_of_ble_eq_true rfl, Nat.le_of_ble_eq_true rfl⟩) rfl hl.1 rfl (Nat.le_of_ble_eq_true rfl) ⟨Nat.zero_le _, Nat.zero_le _⟩ rfl dX7_borrow_24 (fun H locs V => ?_)
    refine lv_if_eq (tgt := 52) hx hb dX7_borrow_27 (by decide) (fun hc29 => ?_) (fun hc29 => ?_)
    · replace h := ite_t hc29 h
      refine lv_aload_n hx hb dX7_borrow_52 rfl (lv_at hl 0 rfl) ?_
      refine lv_iconst (v := 2) hx hb dX7_borrow_53 (by decide) ?_
      obtain ⟨q30, hq30, h⟩ := bd_s h
      refine kMM (As := [.int 2]) (rest := []) ⟨hx, hb, hml, hown, hts⟩ Z V (c_X7_no (l := l) (D := D) (y := y) (ad := ad) hq30) (cwV 1 hts gX7_borrow_X7_no rfl rfl rfl (by decide +kernel) ⟨Nat.le_of_ble_eq_true rfl, Nat.le_of_ble_eq_true rfl⟩) (by omega) (mM_m y ad _ _ _) rfl rfl hl.1 rfl (Nat.le_of_ble_eq_true rfl) ⟨Nat.zero_le _, Nat.zero_le _⟩ rfl dX7_borrow_54 (fun H locs V => ?_)
      obtain rfl := Option.some.inj h
      exact m_iret hx hb hr hlk V (Nat.zero_le _) (Nat.zero_le _) dX7_borrow_57
    · replace h := ite_f hc29 h
      refine lv_iload_n hx hb dX7_borrow_30 rfl (lv_at hl 3 rfl) ?_
      refine lv_iconst (v := 0) hx hb dX7_borrow_31 (by decide) ?_
      refine lv_bipush (v := 100) hx hb dX7_borrow_32 (by decide) ?_
      obtain ⟨q31, hq31, h⟩ := bd_s h
      refine kMMs (As := [.int a3, .int 0, .int 100]) (rest := []) ⟨hx, hb, hml, hown, hts⟩ Z V (c_X7_isIn (l := l) (D := D) (y := y) (ad := ad) hq31) (va_cwS 3 hts gX7_borrow_X7_isIn rfl rfl rfl (by decide +kernel) ⟨Nat.le_of_ble_eq_true rfl, Nat.le_of_ble_eq_true rfl⟩) rfl hl.1 rfl (Nat.le_of_ble_eq_true rfl) ⟨Nat.zero_le _, Nat.zero_le _⟩ rfl dX7_borrow_34 (fun H locs V => ?_)
      refine lv_if_eq (tgt := 52) hx hb dX7_borrow_37 (by decide) (fun hc32 => ?_) (fun hc32 => ?_)
      · replace h := ite_t hc32 h
        refine lv_aload_n hx hb dX7_borrow_52 rfl (lv_at hl 0 rfl) ?_
        refine lv_iconst (v := 2) hx hb dX7_borrow_53 (by decide) ?_
        obtain ⟨q33, hq33, h⟩ := bd_s h
        refine kMM (As := [.int 2]) (rest := []) ⟨hx, hb, hml, hown, hts⟩ Z V (c_X7_no (l := l) (D := D) (y := y) (ad := ad) hq33) (cwV 1 hts gX7_borrow_X7_no rfl rfl rfl (by decide +kernel) ⟨Nat.le_of_ble_eq_true rfl, Nat.le_of_ble_eq_true rfl⟩) (by omega) (mM_m y ad _ _ _) rfl rfl hl.1 rfl (Nat.le_of_ble_eq_true rfl) ⟨Nat.zero_le _, Nat.zero_le _⟩ rfl dX7_borrow_54 (fun H locs V => ?_)
        obtain rfl := Option.some.inj h
        exact m_iret hx hb hr hlk V (Nat.zero_le _) (Nat.zero_le _) dX7_borrow_57
      · replace h := ite_f hc32 h
        refine lv_iload hx hb dX7_borrow_40 (lv_at hl 4 rfl) ?_
        refine lv_iconst (v := 1) hx hb dX7_borrow_42 (by decide) ?_
        refine lv_sipush (v := 3600) hx hb dX7_borrow_43 (by decide) ?_
        obtain ⟨q34, hq34, h⟩ := bd_s h
        refine kMMs (As := [.int a4, .int 1, .int 3600]) (rest := []) ⟨hx, hb, hml, hown, hts⟩ Z V (c_X7_isIn (l := l) (D := D) (y := y) (ad := ad) hq34) (va_cwS 3 hts gX7_borrow_X7_isIn rfl rfl rfl (by decide +kernel) ⟨Nat.le_of_ble_eq_true rfl, Nat.le_of_ble_eq_true rfl⟩) rfl hl.1 rfl (Nat.le_of_ble_eq_true rfl) ⟨Nat.zero_le _, Nat.zero_le _⟩ rfl dX7_borrow_46 (fun H locs V => ?_)
        refine lv_if_ne (tgt := 58) hx hb dX7_borrow_49 (by decide) (fun hc35 => ?_) (fun hc35 => ?_)
        · replace h := ite_f hc35 h
          refine lv_iload_n hx hb dX7_borrow_58 rfl (lv_at hl 2 rfl) ?_
          refine lv_aload_n hx hb dX7_borrow_59 rfl (lv_at hl 0 rfl) ?_
          refine rM_s hx hb hts hown (fun _ h => List.mem_cons_of_mem _ (List.mem_append_left _ (List.mem_append_right _ h))) V (hts _ (List.mem_of_getElem? (i := 2) rfl)) dX7_borrow_60 ?_
          refine gM_T hx hb hts hown (fun _ h => List.mem_cons_of_mem _ (List.mem_append_right _ h)) V 24 (by decide) (mN_use (q := (93, "reserve", "I")) Z 12 rfl) (v := .int (q34.2.2.1 24 0)) rfl dX7_borrow_63 ?_
          refine lv_icmp_gt (tgt := 100) hx hb dX7_borrow_66 (by decide) (fun hc36 => ?_) (fun hc36 => ?_)
          · replace h := ite_t hc36 h
            refine lv_aload_n hx hb dX7_borrow_100 rfl (lv_at hl 0 rfl) ?_
            refine lv_iconst (v := 3) hx hb dX7_borrow_101 (by decide) ?_
            obtain ⟨q37, hq37, h⟩ := bd_s h
            refine kMM (As := [.int 3]) (rest := []) ⟨hx, hb, hml, hown, hts⟩ Z V (c_X7_no (l := l) (D := D) (y := y) (ad := ad) hq37) (cwV 1 hts gX7_borrow_X7_no rfl rfl rfl (by decide +kernel) ⟨Nat.le_of_ble_eq_true rfl, Nat.le_of_ble_eq_true rfl⟩) (by omega) (mM_m y ad _ _ _) rfl rfl hl.1 rfl (Nat.le_of_ble_eq_true rfl) ⟨Nat.zero_le _, Nat.zero_le _⟩ rfl dX7_borrow_102 (fun H locs V => ?_)
            obtain rfl := Option.some.inj h
            exact m_iret hx hb hr hlk V (Nat.zero_le _) (Nat.zero_le _) dX7_borrow_105
          · replace h := ite_f hc36 h
            refine lv_aload_n hx hb dX7_borrow_69 rfl (lv_at hl 0 rfl) ?_
            refine lv_iload_n hx hb dX7_borrow_70 rfl (lv_at hl 1 rfl) ?_
            refine lv_iconst (v := 2) hx hb dX7_borrow_71 (by decide) ?_
            obtain ⟨q38, hq38, h⟩ := bd_s h
            refine kMM (As := [.int a1, .int 2]) (rest := []) ⟨hx, hb, hml, hown, hts⟩ Z V (c_X7_loansOf (l := l) (D := D) (y := y) (ad := ad) hq38) (cwV 2 hts gX7_borrow_X7_loansOf rfl rfl rfl (by decide +kernel) ⟨Nat.le_of_ble_eq_true rfl, Nat.le_of_ble_eq_true rfl⟩) (by omega) (mM_m y ad _ _ _) rfl rfl hl.1 rfl (Nat.le_of_ble_eq_true rfl) ⟨Nat.zero_le _, Nat.zero_le _⟩ rfl dX7_borrow_72 (fun H locs V => ?_)
            refine lv_if_gt (tgt := 100) hx hb dX7_borrow_75 (by decide) (fun hc39 => ?_) (fun hc39 => ?_)
            · replace h := ite_t hc39 h
              refine lv_aload_n hx hb dX7_borrow_100 rfl (lv_at hl 0 rfl) ?_
              refine lv_iconst (v := 3) hx hb dX7_borrow_101 (by decide) ?_
              obtain ⟨q40, hq40, h⟩ := bd_s h
              refine kMM (As := [.int 3]) (rest := []) ⟨hx, hb, hml, hown, hts⟩ Z V (c_X7_no (l := l) (D := D) (y := y) (ad := ad) hq40) (cwV 1 hts gX7_borrow_X7_no rfl rfl rfl (by decide +kernel) ⟨Nat.le_of_ble_eq_true rfl, Nat.le_of_ble_eq_true rfl⟩) (by omega) (mM_m y ad _ _ _) rfl rfl hl.1 rfl (Nat.le_of_ble_eq_true rfl) ⟨Nat.zero_le _, Nat.zero_le _⟩ rfl dX7_borrow_102 (fun H locs V => ?_)
              obtain rfl := Option.some.inj h
              exact m_iret hx hb hr hlk V (Nat.zero_le _) (Nat.zero_le _) dX7_borrow_105
            · replace h := ite_f hc39 h
              refine lv_aload_n hx hb dX7_borrow_78 rfl (lv_at hl 0 rfl) ?_
              refine lv_iload_n hx hb dX7_borrow_79 rfl (lv_at hl 1 rfl) ?_
              refine lv_iconst (v := 0) hx hb dX7_borrow_80 (by decide) ?_
              obtain ⟨q41, hq41, h⟩ := bd_s h
              refine kMM (As := [.int a1, .int 0]) (rest := []) ⟨hx, hb, hml, hown, hts⟩ Z V (c_X7_loansOf (l := l) (D := D) (y := y) (ad := ad) hq41) (cwV 2 hts gX7_borrow_X7_loansOf rfl rfl rfl (by decide +kernel) ⟨Nat.le_of_ble_eq_true rfl, Nat.le_of_ble_eq_true rfl⟩) (by omega) (mM_m y ad _ _ _) rfl rfl hl.1 rfl (Nat.le_of_ble_eq_true rfl) ⟨Nat.zero_le _, Nat.zero_le _⟩ rfl dX7_borrow_81 (fun H locs V => ?_)
              refine lv_iconst (v := 2) hx hb dX7_borrow_84 (by decide) ?_
              refine lv_icmp_gt (tgt := 100) hx hb dX7_borrow_85 (by decide) (fun hc42 => ?_) (fun hc42 => ?_)
              · replace h := ite_t hc42 h
                refine lv_aload_n hx hb dX7_borrow_100 rfl (lv_at hl 0 rfl) ?_
                refine lv_iconst (v := 3) hx hb dX7_borrow_101 (by decide) ?_
                obtain ⟨q43, hq43, h⟩ := bd_s h
                refine kMM (As := [.int 3]) (rest := []) ⟨hx, hb, hml, hown, hts⟩ Z V (c_X7_no (l := l) (D := D) (y := y) (ad := ad) hq43) (cwV 1 hts gX7_borrow_X7_no rfl rfl rfl (by decide +kernel) ⟨Nat.le_of_ble_eq_true rfl, Nat.le_of_ble_eq_true rfl⟩) (by omega) (mM_m y ad _ _ _) rfl rfl hl.1 rfl (Nat.le_of_ble_eq_true rfl) ⟨Nat.zero_le _, Nat.zero_le _⟩ rfl dX7_borrow_102 (fun H locs V => ?_)
                obtain rfl := Option.some.inj h
                exact m_iret hx hb hr hlk V (Nat.zero_le _) (Nat.zero_le _) dX7_borrow_105
              · replace h := ite_f hc42 h
                refine lv_aload_n hx hb dX7_borrow_88 rfl (lv_at hl 0 rfl) ?_
                refine rM_s hx hb hts hown (fun _ h => List.mem_cons_of_mem _ (List.mem_append_left _ (List.mem_append_right _ h))) V (hts _ (List.mem_of_getElem? (i := 2) rfl)) dX7_borrow_89 ?_
                refine gM_T hx hb hts hown (fun _ h => List.mem_cons_of_mem _ (List.mem_append_right _ h)) V 18 (by decide) (mN_use (q := (39, "loans", "I")) Z 2 rfl) (v := .int (q41.2.2.1 23 0)) rfl dX7_borrow_92 ?_
                refine lv_bipush (v := 20) hx hb dX7_borrow_95 (by decide) ?_
                refine lv_icmp_ne (tgt := 106) hx hb dX7_borrow_97 (by decide) (fun hc44 => ?_) (fun hc44 => ?_)
                · replace h := ite_f hc44 h
                  refine lv_aload_n hx hb dX7_borrow_106 rfl (lv_at hl 0 rfl) ?_
                  refine rM_s hx hb hts hown (fun _ h => List.mem_cons_of_mem _ (List.mem_append_left _ (List.mem_append_right _ h))) V (hts _ (List.mem_of_getElem? (i := 2) rfl)) dX7_borrow_107 ?_
                  refine gM_T hx hb hts hown (fun _ h => List.mem_cons_of_mem _ (List.mem_append_right _ h)) V 18 (by decide) (mN_use (q := (39, "loans", "I")) Z 2 rfl) (v := .int (q41.2.2.1 23 0)) rfl dX7_borrow_110 ?_
                  refine lv_istore (lv' := [(5, .int (q41.2.2.1 23 0)), (0, .ref (ad 42)), (1, .int a1), (2, .int a2), (3, .int a3), (4, .int a4)]) hx hb dX7_borrow_113 hl (by decide) rfl (fun ls hl => ?_)
                  refine lv_aload_n hx hb dX7_borrow_115 rfl (lv_at hl 1 rfl) ?_
                  refine rM_s hx hb hts hown (fun _ h => List.mem_cons_of_mem _ (List.mem_append_left _ (List.mem_append_right _ h))) V (hts _ (List.mem_of_getElem? (i := 2) rfl)) dX7_borrow_116 ?_
                  refine gM_T hx hb hts hown (fun _ h => List.mem_cons_of_mem _ (List.mem_append_right _ h)) V 19 (by decide) (mN_use (q := (42, "borrower", "[I")) Z 3 rfl) (v := .ref (ad 16)) rfl dX7_borrow_119 ?_
                  refine lv_iload hx hb dX7_borrow_122 (lv_at hl 0 rfl) ?_
                  refine lv_iload_n hx hb dX7_borrow_124 rfl (lv_at hl 2 rfl) ?_
                  obtain ⟨hi45, h⟩ := gd_s h
                  refine bM_I hx hb V 15 16 20 (by decide) rfl rfl hi45 dX7_borrow_125 (fun H locs V => ?_)
                  refine lv_aload_n hx hb dX7_borrow_126 rfl (lv_at hl 1 rfl) ?_
                  refine rM_s hx hb hts hown (fun _ h => List.mem_cons_of_mem _ (List.mem_append_left _ (List.mem_append_right _ h))) V (hts _ (List.mem_of_getElem? (i := 2) rfl)) dX7_borrow_127 ?_
                  refine gM_T hx hb hts hown (fun _ h => List.mem_cons_of_mem _ (List.mem_append_right _ h)) V 20 (by decide) (mN_use (q := (48, "owed", "[I")) Z 5 rfl) (v := .ref (ad 17)) rfl dX7_borrow_130 ?_
                  refine lv_iload hx hb dX7_borrow_133 (lv_at hl 0 rfl) ?_
                  refine lv_iload_n hx hb dX7_borrow_135 rfl (lv_at hl 3 rfl) ?_
                  refine bM_I hx hb V 16 17 20 (by decide) rfl rfl hi45 dX7_borrow_136 (fun H locs V => ?_)
                  refine lv_aload_n hx hb dX7_borrow_137 rfl (lv_at hl 1 rfl) ?_
                  refine rM_s hx hb hts hown (fun _ h => List.mem_cons_of_mem _ (List.mem_append_left _ (List.mem_append_right _ h))) V (hts _ (List.mem_of_getElem? (i := 2) rfl)) dX7_borrow_138 ?_
                  refine gM_T hx hb hts hown (fun _ h => List.mem_cons_of_mem _ (List.mem_append_right _ h)) V 21 (by decide) (mN_use (q := (103, "rate", "[I")) Z 14 rfl) (v := .ref (ad 18)) rfl dX7_borrow_141 ?_
                  refine lv_iload hx hb dX7_borrow_144 (lv_at hl 0 rfl) ?_
                  refine lv_iload_n hx hb dX7_borrow_146 rfl (lv_at hl 4 rfl) ?_
                  refine bM_I hx hb V 17 18 20 (by decide) rfl rfl hi45 dX7_borrow_147 (fun H locs V => ?_)
                  refine lv_aload_n hx hb dX7_borrow_148 rfl (lv_at hl 1 rfl) ?_
                  refine rM_s hx hb hts hown (fun _ h => List.mem_cons_of_mem _ (List.mem_append_left _ (List.mem_append_right _ h))) V (hts _ (List.mem_of_getElem? (i := 2) rfl)) dX7_borrow_149 ?_
                  refine gM_T hx hb hts hown (fun _ h => List.mem_cons_of_mem _ (List.mem_append_right _ h)) V 22 (by decide) (mN_use (q := (106, "due", "[I")) Z 15 rfl) (v := .ref (ad 19)) rfl dX7_borrow_152 ?_
                  refine lv_iload hx hb dX7_borrow_155 (lv_at hl 0 rfl) ?_
                  refine lv_aload_n hx hb dX7_borrow_157 rfl (lv_at hl 1 rfl) ?_
                  refine rM_s hx hb hts hown (fun _ h => List.mem_cons_of_mem _ (List.mem_append_left _ (List.mem_append_right _ h))) V (hts _ (List.mem_of_getElem? (i := 2) rfl)) dX7_borrow_158 ?_
                  refine gM_T hx hb hts hown (fun _ h => List.mem_cons_of_mem _ (List.mem_append_right _ h)) V 0 (by decide) (mN_use (q := (109, "time", "I")) Z 16 rfl) (v := .int ((mUp (mUp (mUp q41.2.2.1 15 (q41.2.2.1 23 0).toNatClampNeg a1) 16 (q41.2.2.1 23 0).toNatClampNeg a2) 17 (q41.2.2.1 23 0).toNatClampNeg a3) 20 0)) rfl dX7_borrow_161 ?_
                  refine lv_iload hx hb dX7_borrow_164 (lv_at hl 5 rfl) ?_
                  refine lv_iadd hx hb dX7_borrow_166 ?_
                  refine bM_I hx hb V 18 19 20 (by decide) rfl rfl hi45 dX7_borrow_167 (fun H locs V => ?_)
                  refine lv_aload_n hx hb dX7_borrow_168 rfl (lv_at hl 1 rfl) ?_
                  refine rM_s hx hb hts hown (fun _ h => List.mem_cons_of_mem _ (List.mem_append_left _ (List.mem_append_right _ h))) V (hts _ (List.mem_of_getElem? (i := 2) rfl)) dX7_borrow_169 ?_
                  refine gM_T hx hb hts hown (fun _ h => List.mem_cons_of_mem _ (List.mem_append_right _ h)) V 23 (by decide) (mN_use (q := (45, "kind", "[I")) Z 4 rfl) (v := .ref (ad 20)) rfl dX7_borrow_172 ?_
                  refine lv_iload hx hb dX7_borrow_175 (lv_at hl 0 rfl) ?_
                  refine lv_iconst (v := 0) hx hb dX7_borrow_177 (by decide) ?_
                  refine bM_I hx hb V 19 20 20 (by decide) rfl rfl hi45 dX7_borrow_178 (fun H locs V => ?_)
                  refine lv_aload_n hx hb dX7_borrow_179 rfl (lv_at hl 1 rfl) ?_
                  refine rM_s hx hb hts hown (fun _ h => List.mem_cons_of_mem _ (List.mem_append_left _ (List.mem_append_right _ h))) V (hts _ (List.mem_of_getElem? (i := 2) rfl)) dX7_borrow_180 ?_
                  refine lv_dup hx hb dX7_borrow_183 rfl ?_
                  refine gM_T hx hb hts hown (fun _ h => List.mem_cons_of_mem _ (List.mem_append_right _ h)) V 18 (by decide) (mN_use (q := (39, "loans", "I")) Z 2 rfl) (v := .int ((mUp (mUp (mUp (mUp (mUp q41.2.2.1 15 (q41.2.2.1 23 0).toNatClampNeg a1) 16 (q41.2.2.1 23 0).toNatClampNeg a2) 17 (q41.2.2.1 23 0).toNatClampNeg a3) 18 (q41.2.2.1 23 0).toNatClampNeg (((mUp (mUp (mUp q41.2.2.1 15 (q41.2.2.1 23 0).toNatClampNeg a1) 16 (q41.2.2.1 23 0).toNatClampNeg a2) 17 (q41.2.2.1 23 0).toNatClampNeg a3) 20 0) + a4)) 19 (q41.2.2.1 23 0).toNatClampNeg 0) 23 0)) rfl dX7_borrow_184 ?_
                  refine lv_iconst (v := 1) hx hb dX7_borrow_187 (by decide) ?_
                  refine lv_iadd hx hb dX7_borrow_188 ?_
                  refine pM_T hx hb hts hown (fun _ h => List.mem_cons_of_mem _ (List.mem_append_right _ h)) V 18 23 (by decide) (by decide) (mN_use (q := (39, "loans", "I")) Z 2 rfl) rfl (mR0_s23 _ _ _) dX7_borrow_189 (fun H locs V => ?_)
                  refine lv_aload_n hx hb dX7_borrow_192 rfl (lv_at hl 1 rfl) ?_
                  refine rM_s hx hb hts hown (fun _ h => List.mem_cons_of_mem _ (List.mem_append_left _ (List.mem_append_right _ h))) V (hts _ (List.mem_of_getElem? (i := 2) rfl)) dX7_borrow_193 ?_
                  refine gM_T hx hb hts hown (fun _ h => List.mem_cons_of_mem _ (List.mem_append_right _ h)) V 3 (by decide) (mN_use (q := (61, "pocket", "[I")) Z 8 rfl) (v := .ref (ad 2)) rfl dX7_borrow_196 ?_
                  refine lv_iload_n hx hb dX7_borrow_199 rfl (lv_at hl 2 rfl) ?_
                  refine lv_dup2_11 hx hb dX7_borrow_200 rfl rfl ?_
                  obtain ⟨hi46, h⟩ := gd_s h
                  refine aM_I hx hb V 1 2 8 (by decide) rfl rfl hi46 dX7_borrow_201 ?_
                  refine lv_iload_n hx hb dX7_borrow_202 rfl (lv_at hl 3 rfl) ?_
                  refine lv_iadd hx hb dX7_borrow_203 ?_
                  refine bM_I hx hb V 1 2 8 (by decide) rfl rfl hi46 dX7_borrow_204 (fun H locs V => ?_)
                  refine lv_aload_n hx hb dX7_borrow_205 rfl (lv_at hl 1 rfl) ?_
                  refine rM_s hx hb hts hown (fun _ h => List.mem_cons_of_mem _ (List.mem_append_left _ (List.mem_append_right _ h))) V (hts _ (List.mem_of_getElem? (i := 2) rfl)) dX7_borrow_206 ?_
                  refine lv_iload_n hx hb dX7_borrow_209 rfl (lv_at hl 3 rfl) ?_
                  refine lv_ineg hx hb dX7_borrow_210 ?_
                  obtain ⟨q47, hq47, h⟩ := bd_s h
                  refine kMR (As := [.int (-a2)]) (rest := []) ⟨hx, hb, hml, hown, hts⟩ V (c_X6_goBack (l := l) (D := D) (y := y) (ad := ad) hq47) (cwV 1 hts gX7_borrow_X6_goBack rfl rfl rfl (by decide +kernel) ⟨Nat.le_of_ble_eq_true rfl, Nat.le_of_ble_eq_true rfl⟩) (by omega) ((mM_0 y ad _ _ _ (by omega)).trans (mR_T y ad _)) rfl rfl hl.1 rfl (Nat.le_of_ble_eq_true rfl) ⟨Nat.zero_le _, Nat.zero_le _⟩ rfl dX7_borrow_211 (fun H locs V => ?_)
                  refine lv_iload hx hb dX7_borrow_214 (lv_at hl 0 rfl) ?_
                  obtain rfl := Option.some.inj h
                  exact m_iret hx hb hr hlk V (Nat.zero_le _) (Nat.zero_le _) dX7_borrow_216
                · replace h := ite_t hc44 h
                  refine lv_aload_n hx hb dX7_borrow_100 rfl (lv_at hl 0 rfl) ?_
                  refine lv_iconst (v := 3) hx hb dX7_borrow_101 (by decide) ?_
                  obtain ⟨q48, hq48, h⟩ := bd_s h
                  refine kMM (As := [.int 3]) (rest := []) ⟨hx, hb, hml, hown, hts⟩ Z V (c_X7_no (l := l) (D := D) (y := y) (ad := ad) hq48) (cwV 1 hts gX7_borrow_X7_no rfl rfl rfl (by decide +kernel) ⟨Nat.le_of_ble_eq_true rfl, Nat.le_of_ble_eq_true rfl⟩) (by omega) (mM_m y ad _ _ _) rfl rfl hl.1 rfl (Nat.le_of_ble_eq_true rfl) ⟨Nat.zero_le _, Nat.zero_le _⟩ rfl dX7_borrow_102 (fun H locs V => ?_)
                  obtain rfl := Option.some.inj h
                  exact m_iret hx hb hr hlk V (Nat.zero_le _) (Nat.zero_le _) dX7_borrow_105
        · replace h := ite_t hc35 h
          refine lv_aload_n hx hb dX7_borrow_52 rfl (lv_at hl 0 rfl) ?_
          refine lv_iconst (v := 2) hx hb dX7_borrow_53 (by decide) ?_
          obtain ⟨q49, hq49, h⟩ := bd_s h
          refine kMM (As := [.int 2]) (rest := []) ⟨hx, hb, hml, hown, hts⟩ Z V (c_X7_no (l := l) (D := D) (y := y) (ad := ad) hq49) (cwV 1 hts gX7_borrow_X7_no rfl rfl rfl (by decide +kernel) ⟨Nat.le_of_ble_eq_true rfl, Nat.le_of_ble_eq_true rfl⟩) (by omega) (mM_m y ad _ _ _) rfl rfl hl.1 rfl (Nat.le_of_ble_eq_true rfl) ⟨Nat.zero_le _, Nat.zero_le _⟩ rfl dX7_borrow_54 (fun H locs V => ?_)
          obtain rfl := Option.some.inj h
          exact m_iret hx hb hr hlk V (Nat.zero_le _) (Nat.zero_le _) dX7_borrow_57
  · replace h := ite_t hc27 h
    refine lv_aload_n hx hb dX7_borrow_13 rfl (lv_at hl 0 rfl) ?_
    refine lv_iconst (v := 1) hx hb dX7_borrow_14 (by decide) ?_
    obtain ⟨q50, hq50, h⟩ := bd_s h
    refine kMM (As := [.int 1]) (rest := []) ⟨hx, hb, hml, hown, hts⟩ Z V (c_X7_no (l := l) (D := D) (y := y) (ad := ad) hq50) (cwV 1 hts gX7_borrow_X7_no rfl rfl rfl (by decide +kernel) ⟨Nat.le_of_ble_eq_true rfl, Nat.le_of_ble_eq_true rfl⟩) (by omega) (mM_m y ad _ _ _) rfl rfl hl.1 rfl (Nat.le_of_ble_eq_true rfl) ⟨Nat.zero_le _, Nat.zero_le _⟩ rfl dX7_borrow_15 (fun H locs V => ?_)
    obtain rfl := Option.some.inj h
    exact m_iret hx hb hr hlk V (Nat.zero_le _) (Nat.zero_le _) dX7_borrow_18
-- X7_isLoan
def f_X7_isLoan (N : Nat) (th : Int32) (ρ α : mSt) (a1 : Int32) : Option (Int32 × Int32 × mSt × mSt) := (f_X7_isIn N th ρ α a1 0 ((ρ 23 0) - 1)).bind fun q3 => if q3.1 = 0 ∨ q3.1 = 1 then some (q3.1, q3.2.1, q3.2.2.1, q3.2.2.2) else none
set_option maxHeartbeats 4000000 in
set_option maxRecDepth 100000 in
theorem c_X7_isLoan {l : Launch} {D : va_G} {y : Nat → ClassId} {ad : Nat → Nat} {N : Nat} {th : Int32} {ρ α : mSt} {a1 : Int32} {q : Int32 × Int32 × mSt × mSt} (h : f_X7_isLoan N th ρ α a1 = some q) : mC l yX7_isLoan wsX7_isLoan { frames := 1, cells := 0, slots := 0, locals := 22 } D y 43 ad mN (mM y ad th ρ α) [.ref (ad 42), .int a1] (some (.int q.1)) (mM y ad q.2.1 q.2.2.1 q.2.2.2) 0 0 := by
  refine m_start (cc := cX7_isLoan) (maxL := 2) (ret := (some .boolean)) (by decide) rfl (Nat.le_of_ble_eq_true rfl) (fun p e s m args below meth c ls hB _ V Z hl => ?_)
  obtain ⟨hx, hb, hml, hown, hts, hr, hlk⟩ := id hB
  have hl : lv_has ls 2 [(0, .ref (ad 42)), (1, .int a1)] := hl
  rw [f_X7_isLoan] at h
  refine lv_iload_n hx hb dX7_isLoan_0 rfl (lv_at hl 1 rfl) ?_
  refine lv_iconst (v := 0) hx hb dX7_isLoan_1 (by decide) ?_
  refine lv_aload_n hx hb dX7_isLoan_2 rfl (lv_at hl 0 rfl) ?_
  refine rM_s hx hb hts hown (fun _ h => List.mem_cons_of_mem _ (List.mem_append_left _ (List.mem_append_right _ h))) V (hts _ (List.mem_of_getElem? (i := 1) rfl)) dX7_isLoan_3 ?_
  refine gM_T hx hb hts hown (fun _ h => List.mem_cons_of_mem _ (List.mem_append_right _ h)) V 18 (by decide) (mN_use (q := (39, "loans", "I")) Z 2 rfl) (v := .int (ρ 23 0)) rfl dX7_isLoan_6 ?_
  refine lv_iconst (v := 1) hx hb dX7_isLoan_9 (by decide) ?_
  refine lv_isub hx hb dX7_isLoan_10 ?_
  obtain ⟨q3, hq3, h⟩ := bd_s h
  refine kMMs (As := [.int a1, .int 0, .int ((ρ 23 0) - 1)]) (rest := []) ⟨hx, hb, hml, hown, hts⟩ Z V (c_X7_isIn (l := l) (D := D) (y := y) (ad := ad) hq3) (va_cwS 3 hts gX7_isLoan_X7_isIn rfl rfl rfl (by decide +kernel) ⟨Nat.le_of_ble_eq_true rfl, Nat.le_of_ble_eq_true rfl⟩) rfl hl.1 rfl (Nat.le_of_ble_eq_true rfl) ⟨Nat.zero_le _, Nat.zero_le _⟩ rfl dX7_isLoan_11 (fun H locs V => ?_)
  obtain ⟨hz4, h⟩ := gd_s h
  obtain rfl := Option.some.inj h
  exact m_zret hx hb hr hlk V hz4 (Nat.zero_le _) (Nat.zero_le _) dX7_isLoan_14
-- X7_repay
def f_X7_repay (N : Nat) (th : Int32) (ρ α : mSt) (a1 : Int32) (a2 : Int32) : Option (Int32 × Int32 × mSt × mSt) := (f_X7_isLoan N 0 ρ α a1).bind fun q19 => if q19.1 = 0 then (f_X7_no N q19.2.1 q19.2.2.1 q19.2.2.2 1).bind fun q36 => some (q36.1, q36.2.1, q36.2.2.1, q36.2.2.2) else (f_X7_isIn N q19.2.1 q19.2.2.1 q19.2.2.2 a2 1 1000000).bind fun q21 => if q21.1 = 0 then (f_X7_no N q21.2.1 q21.2.2.1 q21.2.2.2 2).bind fun q35 => some (q35.1, q35.2.1, q35.2.2.1, q35.2.2.2) else if mIn a1 20 then if (q21.2.2.1 19 a1.toNatClampNeg) = 1 then (f_X7_no N q21.2.1 q21.2.2.1 q21.2.2.2 3).bind fun q34 => some (q34.1, q34.2.1, q34.2.2.1, q34.2.2.2) else if mIn (q21.2.2.1 15 a1.toNatClampNeg) 8 then (f_X6_goBack N (mUp (mUp q21.2.2.1 1 (q21.2.2.1 15 a1.toNatClampNeg).toNatClampNeg ((q21.2.2.1 1 (q21.2.2.1 15 a1.toNatClampNeg).toNatClampNeg) - (mMin a2 (mMin (q21.2.2.1 16 a1.toNatClampNeg) (q21.2.2.1 1 (q21.2.2.1 15 a1.toNatClampNeg).toNatClampNeg))))) 16 a1.toNatClampNeg (((mUp q21.2.2.1 1 (q21.2.2.1 15 a1.toNatClampNeg).toNatClampNeg ((q21.2.2.1 1 (q21.2.2.1 15 a1.toNatClampNeg).toNatClampNeg) - (mMin a2 (mMin (q21.2.2.1 16 a1.toNatClampNeg) (q21.2.2.1 1 (q21.2.2.1 15 a1.toNatClampNeg).toNatClampNeg))))) 16 a1.toNatClampNeg) - (mMin a2 (mMin (q21.2.2.1 16 a1.toNatClampNeg) (q21.2.2.1 1 (q21.2.2.1 15 a1.toNatClampNeg).toNatClampNeg))))) (mMin a2 (mMin (q21.2.2.1 16 a1.toNatClampNeg) (q21.2.2.1 1 (q21.2.2.1 15 a1.toNatClampNeg).toNatClampNeg)))).bind fun q31 => if (q31.2 16 a1.toNatClampNeg) = 0 then some (mMin a2 (mMin (q21.2.2.1 16 a1.toNatClampNeg) (q21.2.2.1 1 (q21.2.2.1 15 a1.toNatClampNeg).toNatClampNeg)), q21.2.1, (mUp q31.2 19 a1.toNatClampNeg 1), q21.2.2.2) else some (mMin a2 (mMin (q21.2.2.1 16 a1.toNatClampNeg) (q21.2.2.1 1 (q21.2.2.1 15 a1.toNatClampNeg).toNatClampNeg)), q21.2.1, q31.2, q21.2.2.2) else none else none
set_option maxHeartbeats 4000000 in
set_option maxRecDepth 100000 in
theorem c_X7_repay {l : Launch} {D : va_G} {y : Nat → ClassId} {ad : Nat → Nat} {N : Nat} {th : Int32} {ρ α : mSt} {a1 : Int32} {a2 : Int32} {q : Int32 × Int32 × mSt × mSt} (h : f_X7_repay N th ρ α a1 a2 = some q) : mC l yX7_repay wsX7_repay { frames := 2, cells := 0, slots := 0, locals := 43 } D y 43 ad mN (mM y ad th ρ α) [.ref (ad 42), .int a1, .int a2] (some (.int q.1)) (mM y ad q.2.1 q.2.2.1 q.2.2.2) 0 0 := by
  refine m_start (cc := cX7_repay) (maxL := 4) (ret := (some .int)) (by decide) rfl (Nat.le_of_ble_eq_true rfl) (fun p e s m args below meth c ls hB _ V Z hl => ?_)
  obtain ⟨hx, hb, hml, hown, hts, hr, hlk⟩ := id hB
  have hl : lv_has ls 4 [(0, .ref (ad 42)), (1, .int a1), (2, .int a2)] := hl
  rw [f_X7_repay] at h
  refine lv_aload_n hx hb dX7_repay_0 rfl (lv_at hl 0 rfl) ?_
  refine lv_iconst (v := 0) hx hb dX7_repay_1 (by decide) ?_
  refine pM_th hx hb hts hown (fun _ h => List.mem_cons_of_mem _ (List.mem_append_left _ (List.mem_append_right _ h))) V (hts _ (List.mem_of_getElem? (i := 1) rfl)) dX7_repay_2 (fun H locs V => ?_)
  refine lv_aload_n hx hb dX7_repay_5 rfl (lv_at hl 0 rfl) ?_
  refine lv_iload_n hx hb dX7_repay_6 rfl (lv_at hl 1 rfl) ?_
  obtain ⟨q19, hq19, h⟩ := bd_s h
  refine kMM (As := [.int a1]) (rest := []) ⟨hx, hb, hml, hown, hts⟩ Z V (c_X7_isLoan (l := l) (D := D) (y := y) (ad := ad) hq19) (cwV 1 hts gX7_repay_X7_isLoan rfl rfl rfl (by decide +kernel) ⟨Nat.le_of_ble_eq_true rfl, Nat.le_of_ble_eq_true rfl⟩) (by omega) (mM_m y ad _ _ _) rfl rfl hl.1 rfl (Nat.le_of_ble_eq_true rfl) ⟨Nat.zero_le _, Nat.zero_le _⟩ rfl dX7_repay_7 (fun H locs V => ?_)
  refine lv_if_ne (tgt := 19) hx hb dX7_repay_10 (by decide) (fun hc20 => ?_) (fun hc20 => ?_)
  · replace h := ite_f hc20 h
    refine lv_iload_n hx hb dX7_repay_19 rfl (lv_at hl 2 rfl) ?_
    refine lv_iconst (v := 1) hx hb dX7_repay_20 (by decide) ?_
    refine lv_ldc (v := 1000000) hx hb hown (hts _ (List.mem_of_getElem? (i := 2) rfl)) dX7_repay_21 ?_
    obtain ⟨q21, hq21, h⟩ := bd_s h
    refine kMMs (As := [.int a2, .int 1, .int 1000000]) (rest := []) ⟨hx, hb, hml, hown, hts⟩ Z V (c_X7_isIn (l := l) (D := D) (y := y) (ad := ad) hq21) (va_cwS 3 hts gX7_repay_X7_isIn rfl rfl rfl (by decide +kernel) ⟨Nat.le_of_ble_eq_true rfl, Nat.le_of_ble_eq_true rfl⟩) rfl hl.1 rfl (Nat.le_of_ble_eq_true rfl) ⟨Nat.zero_le _, Nat.zero_le _⟩ rfl dX7_repay_23 (fun H locs V => ?_)
    refine lv_if_ne (tgt := 35) hx hb dX7_repay_26 (by decide) (fun hc22 => ?_) (fun hc22 => ?_)
    · replace h := ite_f hc22 h
      refine lv_aload_n hx hb dX7_repay_35 rfl (lv_at hl 0 rfl) ?_
      refine rM_s hx hb hts hown (fun _ h => List.mem_cons_of_mem _ (List.mem_append_left _ (List.mem_append_right _ h))) V (hts _ (List.mem_of_getElem? (i := 3) rfl)) dX7_repay_36 ?_
      refine gM_T hx hb hts hown (fun _ h => List.mem_cons_of_mem _ (List.mem_append_right _ h)) V 23 (by decide) (mN_use (q := (45, "kind", "[I")) Z 4 rfl) (v := .ref (ad 20)) rfl dX7_repay_39 ?_
      refine lv_iload_n hx hb dX7_repay_42 rfl (lv_at hl 1 rfl) ?_
      obtain ⟨hi23, h⟩ := gd_s h
      refine aM_I hx hb V 19 20 20 (by decide) rfl rfl hi23 dX7_repay_43 ?_
      refine lv_iconst (v := 1) hx hb dX7_repay_44 (by decide) ?_
      refine lv_icmp_ne (tgt := 54) hx hb dX7_repay_45 (by decide) (fun hc24 => ?_) (fun hc24 => ?_)
      · replace h := ite_f hc24 h
        refine lv_iload_n hx hb dX7_repay_54 rfl (lv_at hl 2 rfl) ?_
        refine lv_aload_n hx hb dX7_repay_55 rfl (lv_at hl 0 rfl) ?_
        refine rM_s hx hb hts hown (fun _ h => List.mem_cons_of_mem _ (List.mem_append_left _ (List.mem_append_right _ h))) V (hts _ (List.mem_of_getElem? (i := 3) rfl)) dX7_repay_56 ?_
        refine gM_T hx hb hts hown (fun _ h => List.mem_cons_of_mem _ (List.mem_append_right _ h)) V 20 (by decide) (mN_use (q := (48, "owed", "[I")) Z 5 rfl) (v := .ref (ad 17)) rfl dX7_repay_59 ?_
        refine lv_iload_n hx hb dX7_repay_62 rfl (lv_at hl 1 rfl) ?_
        refine aM_I hx hb V 16 17 20 (by decide) rfl rfl hi23 dX7_repay_63 ?_
        refine lv_aload_n hx hb dX7_repay_64 rfl (lv_at hl 0 rfl) ?_
        refine rM_s hx hb hts hown (fun _ h => List.mem_cons_of_mem _ (List.mem_append_left _ (List.mem_append_right _ h))) V (hts _ (List.mem_of_getElem? (i := 3) rfl)) dX7_repay_65 ?_
        refine gM_T hx hb hts hown (fun _ h => List.mem_cons_of_mem _ (List.mem_append_right _ h)) V 3 (by decide) (mN_use (q := (61, "pocket", "[I")) Z 8 rfl) (v := .ref (ad 2)) rfl dX7_repay_68 ?_
        refine lv_aload_n hx hb dX7_repay_71 rfl (lv_at hl 0 rfl) ?_
        refine rM_s hx hb hts hown (fun _ h => List.mem_cons_of_mem _ (List.mem_append_left _ (List.mem_append_right _ h))) V (hts _ (List.mem_of_getElem? (i := 3) rfl)) dX7_repay_72 ?_
        refine gM_T hx hb hts hown (fun _ h => List.mem_cons_of_mem _ (List.mem_append_right _ h)) V 19 (by decide) (mN_use (q := (42, "borrower", "[I")) Z 3 rfl) (v := .ref (ad 16)) rfl dX7_repay_75 ?_
        refine lv_iload_n hx hb dX7_repay_78 rfl (lv_at hl 1 rfl) ?_
        refine aM_I hx hb V 15 16 20 (by decide) rfl rfl hi23 dX7_repay_79 ?_
        obtain ⟨hi27, h⟩ := gd_s h
        refine aM_I hx hb V 1 2 8 (by decide) rfl rfl hi27 dX7_repay_80 ?_
        refine m_min hx hb hml hl.1 hown (hts _ (List.mem_of_getElem? (i := 4) rfl)) (hts _ (List.mem_of_getElem? (i := 5) rfl)) (hts _ (List.mem_of_getElem? (i := 6) rfl)) (hts _ (List.mem_of_getElem? (i := 7) rfl)) (Nat.le_of_ble_eq_true rfl) (Nat.le_of_ble_eq_true rfl) (Nat.zero_le _) (Nat.zero_le _) dX7_repay_81 ?_
        refine m_min hx hb hml hl.1 hown (hts _ (List.mem_of_getElem? (i := 4) rfl)) (hts _ (List.mem_of_getElem? (i := 5) rfl)) (hts _ (List.mem_of_getElem? (i := 6) rfl)) (hts _ (List.mem_of_getElem? (i := 7) rfl)) (Nat.le_of_ble_eq_true rfl) (Nat.le_of_ble_eq_true rfl) (Nat.zero_le _) (Nat.zero_le _) dX7_repay_84 ?_
        refine lv_istore_n (lv' := [(3, .int (mMin a2 (mMin (q21.2.2.1 16 a1.toNatClampNeg) (q21.2.2.1 1 (q21.2.2.1 15 a1.toNatClampNeg).toNatClampNeg)))), (0, .ref (ad 42)), (1, .int a1), (2, .int a2)]) hx hb dX7_repay_87 rfl hl (by decide) rfl (fun ls hl => ?_)
        refine lv_aload_n hx hb dX7_repay_88 rfl (lv_at hl 1 rfl) ?_
        refine rM_s hx hb hts hown (fun _ h => List.mem_cons_of_mem _ (List.mem_append_left _ (List.mem_append_right _ h))) V (hts _ (List.mem_of_getElem? (i := 3) rfl)) dX7_repay_89 ?_
        refine gM_T hx hb hts hown (fun _ h => List.mem_cons_of_mem _ (List.mem_append_right _ h)) V 3 (by decide) (mN_use (q := (61, "pocket", "[I")) Z 8 rfl) (v := .ref (ad 2)) rfl dX7_repay_92 ?_
        refine lv_aload_n hx hb dX7_repay_95 rfl (lv_at hl 1 rfl) ?_
        refine rM_s hx hb hts hown (fun _ h => List.mem_cons_of_mem _ (List.mem_append_left _ (List.mem_append_right _ h))) V (hts _ (List.mem_of_getElem? (i := 3) rfl)) dX7_repay_96 ?_
        refine gM_T hx hb hts hown (fun _ h => List.mem_cons_of_mem _ (List.mem_append_right _ h)) V 19 (by decide) (mN_use (q := (42, "borrower", "[I")) Z 3 rfl) (v := .ref (ad 16)) rfl dX7_repay_99 ?_
        refine lv_iload_n hx hb dX7_repay_102 rfl (lv_at hl 2 rfl) ?_
        refine aM_I hx hb V 15 16 20 (by decide) rfl rfl hi23 dX7_repay_103 ?_
        refine lv_dup2_11 hx hb dX7_repay_104 rfl rfl ?_
        refine aM_I hx hb V 1 2 8 (by decide) rfl rfl hi27 dX7_repay_105 ?_
        refine lv_iload_n hx hb dX7_repay_106 rfl (lv_at hl 0 rfl) ?_
        refine lv_isub hx hb dX7_repay_107 ?_
        refine bM_I hx hb V 1 2 8 (by decide) rfl rfl hi27 dX7_repay_108 (fun H locs V => ?_)
        refine lv_aload_n hx hb dX7_repay_109 rfl (lv_at hl 1 rfl) ?_
        refine rM_s hx hb hts hown (fun _ h => List.mem_cons_of_mem _ (List.mem_append_left _ (List.mem_append_right _ h))) V (hts _ (List.mem_of_getElem? (i := 3) rfl)) dX7_repay_110 ?_
        refine gM_T hx hb hts hown (fun _ h => List.mem_cons_of_mem _ (List.mem_append_right _ h)) V 20 (by decide) (mN_use (q := (48, "owed", "[I")) Z 5 rfl) (v := .ref (ad 17)) rfl dX7_repay_113 ?_
        refine lv_iload_n hx hb dX7_repay_116 rfl (lv_at hl 2 rfl) ?_
        refine lv_dup2_11 hx hb dX7_repay_117 rfl rfl ?_
        refine aM_I hx hb V 16 17 20 (by decide) rfl rfl hi23 dX7_repay_118 ?_
        refine lv_iload_n hx hb dX7_repay_119 rfl (lv_at hl 0 rfl) ?_
        refine lv_isub hx hb dX7_repay_120 ?_
        refine bM_I hx hb V 16 17 20 (by decide) rfl rfl hi23 dX7_repay_121 (fun H locs V => ?_)
        refine lv_aload_n hx hb dX7_repay_122 rfl (lv_at hl 1 rfl) ?_
        refine rM_s hx hb hts hown (fun _ h => List.mem_cons_of_mem _ (List.mem_append_left _ (List.mem_append_right _ h))) V (hts _ (List.mem_of_getElem? (i := 3) rfl)) dX7_repay_123 ?_
        refine lv_iload_n hx hb dX7_repay_126 rfl (lv_at hl 0 rfl) ?_
        obtain ⟨q31, hq31, h⟩ := bd_s h
        refine kMR (As := [.int (mMin a2 (mMin (q21.2.2.1 16 a1.toNatClampNeg) (q21.2.2.1 1 (q21.2.2.1 15 a1.toNatClampNeg).toNatClampNeg)))]) (rest := []) ⟨hx, hb, hml, hown, hts⟩ V (c_X6_goBack (l := l) (D := D) (y := y) (ad := ad) hq31) (cwV 1 hts gX7_repay_X6_goBack rfl rfl rfl (by decide +kernel) ⟨Nat.le_of_ble_eq_true rfl, Nat.le_of_ble_eq_true rfl⟩) (by omega) ((mM_0 y ad _ _ _ (by omega)).trans (mR_T y ad _)) rfl rfl hl.1 rfl (Nat.le_of_ble_eq_true rfl) ⟨Nat.zero_le _, Nat.zero_le _⟩ rfl dX7_repay_127 (fun H locs V => ?_)
        refine lv_aload_n hx hb dX7_repay_130 rfl (lv_at hl 1 rfl) ?_
        refine rM_s hx hb hts hown (fun _ h => List.mem_cons_of_mem _ (List.mem_append_left _ (List.mem_append_right _ h))) V (hts _ (List.mem_of_getElem? (i := 3) rfl)) dX7_repay_131 ?_
        refine gM_T hx hb hts hown (fun _ h => List.mem_cons_of_mem _ (List.mem_append_right _ h)) V 20 (by decide) (mN_use (q := (48, "owed", "[I")) Z 5 rfl) (v := .ref (ad 17)) rfl dX7_repay_134 ?_
        refine lv_iload_n hx hb dX7_repay_137 rfl (lv_at hl 2 rfl) ?_
        refine aM_I hx hb V 16 17 20 (by decide) rfl rfl hi23 dX7_repay_138 ?_
        refine lv_if_ne (tgt := 152) hx hb dX7_repay_139 (by decide) (fun hc33 => ?_) (fun hc33 => ?_)
        · replace h := ite_f hc33 h
          refine lv_iload_n hx hb dX7_repay_152 rfl (lv_at hl 0 rfl) ?_
          obtain rfl := Option.some.inj h
          exact m_iret hx hb hr hlk V (Nat.zero_le _) (Nat.zero_le _) dX7_repay_153
        · replace h := ite_t hc33 h
          refine lv_aload_n hx hb dX7_repay_142 rfl (lv_at hl 1 rfl) ?_
          refine rM_s hx hb hts hown (fun _ h => List.mem_cons_of_mem _ (List.mem_append_left _ (List.mem_append_right _ h))) V (hts _ (List.mem_of_getElem? (i := 3) rfl)) dX7_repay_143 ?_
          refine gM_T hx hb hts hown (fun _ h => List.mem_cons_of_mem _ (List.mem_append_right _ h)) V 23 (by decide) (mN_use (q := (45, "kind", "[I")) Z 4 rfl) (v := .ref (ad 20)) rfl dX7_repay_146 ?_
          refine lv_iload_n hx hb dX7_repay_149 rfl (lv_at hl 2 rfl) ?_
          refine lv_iconst (v := 1) hx hb dX7_repay_150 (by decide) ?_
          refine bM_I hx hb V 19 20 20 (by decide) rfl rfl hi23 dX7_repay_151 (fun H locs V => ?_)
          refine lv_iload_n hx hb dX7_repay_152 rfl (lv_at hl 0 rfl) ?_
          obtain rfl := Option.some.inj h
          exact m_iret hx hb hr hlk V (Nat.zero_le _) (Nat.zero_le _) dX7_repay_153
      · replace h := ite_t hc24 h
        refine lv_aload_n hx hb dX7_repay_48 rfl (lv_at hl 0 rfl) ?_
        refine lv_iconst (v := 3) hx hb dX7_repay_49 (by decide) ?_
        obtain ⟨q34, hq34, h⟩ := bd_s h
        refine kMM (As := [.int 3]) (rest := []) ⟨hx, hb, hml, hown, hts⟩ Z V (c_X7_no (l := l) (D := D) (y := y) (ad := ad) hq34) (cwV 1 hts gX7_repay_X7_no rfl rfl rfl (by decide +kernel) ⟨Nat.le_of_ble_eq_true rfl, Nat.le_of_ble_eq_true rfl⟩) (by omega) (mM_m y ad _ _ _) rfl rfl hl.1 rfl (Nat.le_of_ble_eq_true rfl) ⟨Nat.zero_le _, Nat.zero_le _⟩ rfl dX7_repay_50 (fun H locs V => ?_)
        obtain rfl := Option.some.inj h
        exact m_iret hx hb hr hlk V (Nat.zero_le _) (Nat.zero_le _) dX7_repay_53
    · replace h := ite_t hc22 h
      refine lv_aload_n hx hb dX7_repay_29 rfl (lv_at hl 0 rfl) ?_
      refine lv_iconst (v := 2) hx hb dX7_repay_30 (by decide) ?_
      obtain ⟨q35, hq35, h⟩ := bd_s h
      refine kMM (As := [.int 2]) (rest := []) ⟨hx, hb, hml, hown, hts⟩ Z V (c_X7_no (l := l) (D := D) (y := y) (ad := ad) hq35) (cwV 1 hts gX7_repay_X7_no rfl rfl rfl (by decide +kernel) ⟨Nat.le_of_ble_eq_true rfl, Nat.le_of_ble_eq_true rfl⟩) (by omega) (mM_m y ad _ _ _) rfl rfl hl.1 rfl (Nat.le_of_ble_eq_true rfl) ⟨Nat.zero_le _, Nat.zero_le _⟩ rfl dX7_repay_31 (fun H locs V => ?_)
      obtain rfl := Option.some.inj h
      exact m_iret hx hb hr hlk V (Nat.zero_le _) (Nat.zero_le _) dX7_repay_34
  · replace h := ite_t hc20 h
    refine lv_aload_n hx hb dX7_repay_13 rfl (lv_at hl 0 rfl) ?_
    refine lv_iconst (v := 1) hx hb dX7_repay_14 (by decide) ?_
    obtain ⟨q36, hq36, h⟩ := bd_s h
    refine kMM (As := [.int 1]) (rest := []) ⟨hx, hb, hml, hown, hts⟩ Z V (c_X7_no (l := l) (D := D) (y := y) (ad := ad) hq36) (cwV 1 hts gX7_repay_X7_no rfl rfl rfl (by decide +kernel) ⟨Nat.le_of_ble_eq_true rfl, Nat.le_of_ble_eq_true rfl⟩) (by omega) (mM_m y ad _ _ _) rfl rfl hl.1 rfl (Nat.le_of_ble_eq_true rfl) ⟨Nat.zero_le _, Nat.zero_le _⟩ rfl dX7_repay_15 (fun H locs V => ?_)
    obtain rfl := Option.some.inj h
    exact m_iret hx hb hr hlk V (Nat.zero_le _) (Nat.zero_le _) dX7_repay_18
-- X7_loanTold
def f_X7_loanTold (N : Nat) (th : Int32) (ρ α : mSt) (a1 : Int32) (a2 : Int32) : Option (Int32 × Int32 × mSt × mSt) := if mIn a1 20 then if mIn a2 5 then some ((upd (upd (upd (upd (upd (fun _ => 0) (0 : Int32).toNatClampNeg (ρ 15 a1.toNatClampNeg)) (1 : Int32).toNatClampNeg (ρ 16 a1.toNatClampNeg)) (2 : Int32).toNatClampNeg (ρ 17 a1.toNatClampNeg)) (3 : Int32).toNatClampNeg (ρ 18 a1.toNatClampNeg)) (4 : Int32).toNatClampNeg (ρ 19 a1.toNatClampNeg)) a2.toNatClampNeg, th, ρ, α) else none else none
set_option maxHeartbeats 4000000 in
set_option maxRecDepth 100000 in
theorem c_X7_loanTold {l : Launch} {D : va_G} {y : Nat → ClassId} {ad : Nat → Nat} {N : Nat} {th : Int32} {ρ α : mSt} {a1 : Int32} {a2 : Int32} {q : Int32 × Int32 × mSt × mSt} (h : f_X7_loanTold N th ρ α a1 a2 = some q) : mC l yX7_loanTold wsX7_loanTold { frames := 0, cells := 1, slots := 5, locals := 0 } D y 43 ad mN (mM y ad th ρ α) [.ref (ad 42), .int a1, .int a2] (some (.int q.1)) (mM y ad q.2.1 q.2.2.1 q.2.2.2) 1 5 := by
  refine m_start (cc := cX7_loanTold) (maxL := 4) (ret := (some .int)) (by decide) rfl (Nat.le_of_ble_eq_true rfl) (fun p e s m args below meth c ls hB _ V Z hl => ?_)
  obtain ⟨hx, hb, hml, hown, hts, hr, hlk⟩ := id hB
  have hl : lv_has ls 4 [(0, .ref (ad 42)), (1, .int a1), (2, .int a2)] := hl
  rw [f_X7_loanTold] at h
  refine lv_iconst (v := 5) hx hb dX7_loanTold_0 (by decide) ?_
  refine m_newI hx hb (hts _ (List.mem_of_getElem? (i := 1) rfl)) V (z := 5) (Z := 5) (by decide) rfl (by decide) (show 0 + 1 ≤ 1 by omega) (show 0 + 5 ≤ 5 by omega) dX7_loanTold_1 (fun qt8 H V => ?_)
  refine lv_dup hx hb dX7_loanTold_3 rfl ?_
  refine lv_iconst (v := 0) hx hb dX7_loanTold_4 (by decide) ?_
  refine lv_aload_n hx hb dX7_loanTold_5 rfl (lv_at hl 0 rfl) ?_
  refine rN_s hx hb hts hown (fun _ h => List.mem_cons_of_mem _ (List.mem_append_left _ (List.mem_append_right _ h))) V (hts _ (List.mem_of_getElem? (i := 2) rfl)) dX7_loanTold_6 ?_
  refine gN_T hx hb hts hown (fun _ h => List.mem_cons_of_mem _ (List.mem_append_right _ h)) V 19 (by decide) (mN_use (q := (42, "borrower", "[I")) Z 3 rfl) (v := .ref (ad 16)) rfl dX7_loanTold_9 ?_
  refine lv_iload_n hx hb dX7_loanTold_12 rfl (lv_at hl 1 rfl) ?_
  obtain ⟨hi9, h⟩ := gd_s h
  refine aN_I hx hb V 15 16 20 (by decide) rfl rfl hi9 dX7_loanTold_13 ?_
  refine tN_st hx hb V (by decide +kernel) dX7_loanTold_14 (fun H locs V => ?_)
  refine lv_dup hx hb dX7_loanTold_15 rfl ?_
  refine lv_iconst (v := 1) hx hb dX7_loanTold_16 (by decide) ?_
  refine lv_aload_n hx hb dX7_loanTold_17 rfl (lv_at hl 0 rfl) ?_
  refine rN_s hx hb hts hown (fun _ h => List.mem_cons_of_mem _ (List.mem_append_left _ (List.mem_append_right _ h))) V (hts _ (List.mem_of_getElem? (i := 2) rfl)) dX7_loanTold_18 ?_
  refine gN_T hx hb hts hown (fun _ h => List.mem_cons_of_mem _ (List.mem_append_right _ h)) V 20 (by decide) (mN_use (q := (48, "owed", "[I")) Z 5 rfl) (v := .ref (ad 17)) rfl dX7_loanTold_21 ?_
  refine lv_iload_n hx hb dX7_loanTold_24 rfl (lv_at hl 1 rfl) ?_
  refine aN_I hx hb V 16 17 20 (by decide) rfl rfl hi9 dX7_loanTold_25 ?_
  refine tN_st hx hb V (by decide +kernel) dX7_loanTold_26 (fun H locs V => ?_)
  refine lv_dup hx hb dX7_loanTold_27 rfl ?_
  refine lv_iconst (v := 2) hx hb dX7_loanTold_28 (by decide) ?_
  refine lv_aload_n hx hb dX7_loanTold_29 rfl (lv_at hl 0 rfl) ?_
  refine rN_s hx hb hts hown (fun _ h => List.mem_cons_of_mem _ (List.mem_append_left _ (List.mem_append_right _ h))) V (hts _ (List.mem_of_getElem? (i := 2) rfl)) dX7_loanTold_30 ?_
  refine gN_T hx hb hts hown (fun _ h => List.mem_cons_of_mem _ (List.mem_append_right _ h)) V 21 (by decide) (mN_use (q := (103, "rate", "[I")) Z 14 rfl) (v := .ref (ad 18)) rfl dX7_loanTold_33 ?_
  refine lv_iload_n hx hb dX7_loanTold_36 rfl (lv_at hl 1 rfl) ?_
  refine aN_I hx hb V 17 18 20 (by decide) rfl rfl hi9 dX7_loanTold_37 ?_
  refine tN_st hx hb V (by decide +kernel) dX7_loanTold_38 (fun H locs V => ?_)
  refine lv_dup hx hb dX7_loanTold_39 rfl ?_
  refine lv_iconst (v := 3) hx hb dX7_loanTold_40 (by decide) ?_
  refine lv_aload_n hx hb dX7_loanTold_41 rfl (lv_at hl 0 rfl) ?_
  refine rN_s hx hb hts hown (fun _ h => List.mem_cons_of_mem _ (List.mem_append_left _ (List.mem_append_right _ h))) V (hts _ (List.mem_of_getElem? (i := 2) rfl)) dX7_loanTold_42 ?_
  refine gN_T hx hb hts hown (fun _ h => List.mem_cons_of_mem _ (List.mem_append_right _ h)) V 22 (by decide) (mN_use (q := (106, "due", "[I")) Z 15 rfl) (v := .ref (ad 19)) rfl dX7_loanTold_45 ?_
  refine lv_iload_n hx hb dX7_loanTold_48 rfl (lv_at hl 1 rfl) ?_
  refine aN_I hx hb V 18 19 20 (by decide) rfl rfl hi9 dX7_loanTold_49 ?_
  refine tN_st hx hb V (by decide +kernel) dX7_loanTold_50 (fun H locs V => ?_)
  refine lv_dup hx hb dX7_loanTold_51 rfl ?_
  refine lv_iconst (v := 4) hx hb dX7_loanTold_52 (by decide) ?_
  refine lv_aload_n hx hb dX7_loanTold_53 rfl (lv_at hl 0 rfl) ?_
  refine rN_s hx hb hts hown (fun _ h => List.mem_cons_of_mem _ (List.mem_append_left _ (List.mem_append_right _ h))) V (hts _ (List.mem_of_getElem? (i := 2) rfl)) dX7_loanTold_54 ?_
  refine gN_T hx hb hts hown (fun _ h => List.mem_cons_of_mem _ (List.mem_append_right _ h)) V 23 (by decide) (mN_use (q := (45, "kind", "[I")) Z 4 rfl) (v := .ref (ad 20)) rfl dX7_loanTold_57 ?_
  refine lv_iload_n hx hb dX7_loanTold_60 rfl (lv_at hl 1 rfl) ?_
  refine aN_I hx hb V 19 20 20 (by decide) rfl rfl hi9 dX7_loanTold_61 ?_
  refine tN_st hx hb V (by decide +kernel) dX7_loanTold_62 (fun H locs V => ?_)
  refine lv_astore_n (lv' := [(3, .ref qt8), (0, .ref (ad 42)), (1, .int a1), (2, .int a2)]) hx hb dX7_loanTold_63 rfl hl (by decide) rfl (fun ls hl => ?_)
  refine lv_aload_n hx hb dX7_loanTold_64 rfl (lv_at hl 0 rfl) ?_
  refine lv_iload_n hx hb dX7_loanTold_65 rfl (lv_at hl 3 rfl) ?_
  obtain ⟨hi14, h⟩ := gd_s h
  refine tN_ld hx hb V hi14 dX7_loanTold_66 ?_
  obtain rfl := Option.some.inj h
  exact m_iret hx hb hr hlk (mV_drop V) ((show 0 + 1 ≤ 1 by omega)) ((show 0 + 5 ≤ 5 by omega)) dX7_loanTold_67
-- X7_loan
def f_X7_loan (N : Nat) (th : Int32) (ρ α : mSt) (a1 : Int32) (a2 : Int32) : Option (Int32 × Int32 × mSt × mSt) := (f_X7_isLoan N 0 ρ α a1).bind fun q8 => if q8.1 = 0 then (f_X7_no N q8.2.1 q8.2.2.1 q8.2.2.2 1).bind fun q10 => some (q10.1, q10.2.1, q10.2.2.1, q10.2.2.2) else (f_X7_isIn N q8.2.1 q8.2.2.1 q8.2.2.2 a2 0 4).bind fun q11 => if q11.1 = 0 then (f_X7_no N q11.2.1 q11.2.2.1 q11.2.2.2 1).bind fun q13 => some (q13.1, q13.2.1, q13.2.2.1, q13.2.2.2) else (f_X7_loanTold N q11.2.1 q11.2.2.1 q11.2.2.2 a1 a2).bind fun q14 => some (q14.1, q14.2.1, q14.2.2.1, q14.2.2.2)
set_option maxHeartbeats 4000000 in
set_option maxRecDepth 100000 in
theorem c_X7_loan {l : Launch} {D : va_G} {y : Nat → ClassId} {ad : Nat → Nat} {N : Nat} {th : Int32} {ρ α : mSt} {a1 : Int32} {a2 : Int32} {q : Int32 × Int32 × mSt × mSt} (h : f_X7_loan N th ρ α a1 a2 = some q) : mC l yX7_loan wsX7_loan { frames := 2, cells := 1, slots := 5, locals := 43 } D y 43 ad mN (mM y ad th ρ α) [.ref (ad 42), .int a1, .int a2] (some (.int q.1)) (mM y ad q.2.1 q.2.2.1 q.2.2.2) 1 5 := by
  refine m_start (cc := cX7_loan) (maxL := 3) (ret := (some .int)) (by decide) rfl (Nat.le_of_ble_eq_true rfl) (fun p e s m args below meth c ls hB _ V Z hl => ?_)
  obtain ⟨hx, hb, hml, hown, hts, hr, hlk⟩ := id hB
  have hl : lv_has ls 3 [(0, .ref (ad 42)), (1, .int a1), (2, .int a2)] := hl
  rw [f_X7_loan] at h
  refine lv_aload_n hx hb dX7_loan_0 rfl (lv_at hl 0 rfl) ?_
  refine lv_iconst (v := 0) hx hb dX7_loan_1 (by decide) ?_
  refine pM_th hx hb hts hown (fun _ h => List.mem_cons_of_mem _ (List.mem_append_left _ (List.mem_append_right _ h))) V (hts _ (List.mem_of_getElem? (i := 1) rfl)) dX7_loan_2 (fun H locs V => ?_)
  refine lv_aload_n hx hb dX7_loan_5 rfl (lv_at hl 0 rfl) ?_
  refine lv_iload_n hx hb dX7_loan_6 rfl (lv_at hl 1 rfl) ?_
  obtain ⟨q8, hq8, h⟩ := bd_s h
  refine kMM (As := [.int a1]) (rest := []) ⟨hx, hb, hml, hown, hts⟩ Z V (c_X7_isLoan (l := l) (D := D) (y := y) (ad := ad) hq8) (cwV 1 hts gX7_loan_X7_isLoan rfl rfl rfl (by decide +kernel) ⟨Nat.le_of_ble_eq_true rfl, Nat.le_of_ble_eq_true rfl⟩) (by omega) (mM_m y ad _ _ _) rfl rfl hl.1 rfl (Nat.le_of_ble_eq_true rfl) ⟨(show 0 + 0 ≤ 1 by omega), (show 0 + 0 ≤ 5 by omega)⟩ rfl dX7_loan_7 (fun H locs V => ?_)
  refine lv_if_eq (tgt := 31) hx hb dX7_loan_10 (by decide) (fun hc9 => ?_) (fun hc9 => ?_)
  · replace h := ite_t hc9 h
    refine lv_aload_n hx hb dX7_loan_31 rfl (lv_at hl 0 rfl) ?_
    refine lv_iconst (v := 1) hx hb dX7_loan_32 (by decide) ?_
    obtain ⟨q10, hq10, h⟩ := bd_s h
    refine kMM (As := [.int 1]) (rest := []) ⟨hx, hb, hml, hown, hts⟩ Z V (c_X7_no (l := l) (D := D) (y := y) (ad := ad) hq10) (cwV 1 hts gX7_loan_X7_no rfl rfl rfl (by decide +kernel) ⟨Nat.le_of_ble_eq_true rfl, Nat.le_of_ble_eq_true rfl⟩) (by omega) (mM_m y ad _ _ _) rfl rfl hl.1 rfl (Nat.le_of_ble_eq_true rfl) ⟨(show 0 + 0 + 0 ≤ 1 by omega), (show 0 + 0 + 0 ≤ 5 by omega)⟩ rfl dX7_loan_33 (fun H locs V => ?_)
    obtain rfl := Option.some.inj h
    exact m_iret hx hb hr hlk V ((show 0 + 0 + 0 ≤ 1 by omega)) ((show 0 + 0 + 0 ≤ 5 by omega)) dX7_loan_36
  · replace h := ite_f hc9 h
    refine lv_iload_n hx hb dX7_loan_13 rfl (lv_at hl 2 rfl) ?_
    refine lv_iconst (v := 0) hx hb dX7_loan_14 (by decide) ?_
    refine lv_iconst (v := 4) hx hb dX7_loan_15 (by decide) ?_
    obtain ⟨q11, hq11, h⟩ := bd_s h
    refine kMMs (As := [.int a2, .int 0, .int 4]) (rest := []) ⟨hx, hb, hml, hown, hts⟩ Z V (c_X7_isIn (l := l) (D := D) (y := y) (ad := ad) hq11) (va_cwS 3 hts gX7_loan_X7_isIn rfl rfl rfl (by decide +kernel) ⟨Nat.le_of_ble_eq_true rfl, Nat.le_of_ble_eq_true rfl⟩) rfl hl.1 rfl (Nat.le_of_ble_eq_true rfl) ⟨(show 0 + 0 + 0 ≤ 1 by omega), (show 0 + 0 + 0 ≤ 5 by omega)⟩ rfl dX7_loan_16 (fun H locs V => ?_)
    refine lv_if_eq (tgt := 31) hx hb dX7_loan_19 (by decide) (fun hc12 => ?_) (fun hc12 => ?_)
    · replace h := ite_t hc12 h
      refine lv_aload_n hx hb dX7_loan_31 rfl (lv_at hl 0 rfl) ?_
      refine lv_iconst (v := 1) hx hb dX7_loan_32 (by decide) ?_
      obtain ⟨q13, hq13, h⟩ := bd_s h
      refine kMM (As := [.int 1]) (rest := []) ⟨hx, hb, hml, hown, hts⟩ Z V (c_X7_no (l := l) (D := D) (y := y) (ad := ad) hq13) (cwV 1 hts gX7_loan_X7_no rfl rfl rfl (by decide +kernel) ⟨Nat.le_of_ble_eq_true rfl, Nat.le_of_ble_eq_true rfl⟩) (by omega) (mM_m y ad _ _ _) rfl rfl hl.1 rfl (Nat.le_of_ble_eq_true rfl) ⟨(show 0 + 0 + 0 + 0 ≤ 1 by omega), (show 0 + 0 + 0 + 0 ≤ 5 by omega)⟩ rfl dX7_loan_33 (fun H locs V => ?_)
      obtain rfl := Option.some.inj h
      exact m_iret hx hb hr hlk V ((show 0 + 0 + 0 + 0 ≤ 1 by omega)) ((show 0 + 0 + 0 + 0 ≤ 5 by omega)) dX7_loan_36
    · replace h := ite_f hc12 h
      refine lv_aload_n hx hb dX7_loan_22 rfl (lv_at hl 0 rfl) ?_
      refine lv_iload_n hx hb dX7_loan_23 rfl (lv_at hl 1 rfl) ?_
      refine lv_iload_n hx hb dX7_loan_24 rfl (lv_at hl 2 rfl) ?_
      obtain ⟨q14, hq14, h⟩ := bd_s h
      refine kMM (As := [.int a1, .int a2]) (rest := []) ⟨hx, hb, hml, hown, hts⟩ Z V (c_X7_loanTold (l := l) (D := D) (y := y) (ad := ad) hq14) (cwV 2 hts gX7_loan_X7_loanTold rfl rfl rfl (by decide +kernel) ⟨Nat.le_of_ble_eq_true rfl, Nat.le_of_ble_eq_true rfl⟩) (by omega) (mM_m y ad _ _ _) rfl rfl hl.1 rfl (Nat.le_of_ble_eq_true rfl) ⟨(show 0 + 0 + 0 + 1 ≤ 1 by omega), (show 0 + 0 + 0 + 5 ≤ 5 by omega)⟩ rfl dX7_loan_25 (fun H locs V => ?_)
      refine lv_goto (tgt := 36) hx hb dX7_loan_28 (by decide) ?_
      obtain rfl := Option.some.inj h
      exact m_iret hx hb hr hlk V ((show 0 + 0 + 0 + 1 ≤ 1 by omega)) ((show 0 + 0 + 0 + 5 ≤ 5 by omega)) dX7_loan_36
-- X7_begin
def f_X7_begin (N : Nat) (th : Int32) (ρ α : mSt) (a1 : Int32) (a2 : Int32) (a3 : Int32) (a4 : Int32) (a5 : Int32) (a6 : Int32) : Option (Int32 × Int32 × mSt × mSt) := (f_X7_isPlayer N 0 ρ α a1).bind fun q34 => if q34.1 = 0 then (f_X7_no N q34.2.1 q34.2.2.1 q34.2.2.2 1).bind fun q36 => some (q36.1, q36.2.1, q36.2.2.1, q36.2.2.2) else (f_X7_isPlayer N q34.2.1 q34.2.2.1 q34.2.2.2 a2).bind fun q37 => if q37.1 = 0 then (f_X7_no N q37.2.1 q37.2.2.1 q37.2.2.2 1).bind fun q66 => some (q66.1, q66.2.1, q66.2.2.1, q66.2.2.2) else if a1 = a2 then (f_X7_no N q37.2.1 q37.2.2.1 q37.2.2.2 2).bind fun q40 => some (q40.1, q40.2.1, q40.2.2.1, q40.2.2.2) else (f_X7_isIn N q37.2.1 q37.2.2.1 q37.2.2.2 a3 1 7200).bind fun q41 => if q41.1 = 0 then (f_X7_no N q41.2.1 q41.2.2.1 q41.2.2.2 2).bind fun q43 => some (q43.1, q43.2.1, q43.2.2.1, q43.2.2.2) else (f_X7_isIn N q41.2.1 q41.2.2.1 q41.2.2.2 a4 0 30).bind fun q44 => if q44.1 = 0 then (f_X7_no N q44.2.1 q44.2.2.1 q44.2.2.2 2).bind fun q46 => some (q46.1, q46.2.1, q46.2.2.1, q46.2.2.2) else (f_X7_isIn N q44.2.1 q44.2.2.1 q44.2.2.2 a5 0 30).bind fun q47 => if q47.1 = 0 then (f_X7_no N q47.2.1 q47.2.2.1 q47.2.2.2 2).bind fun q49 => some (q49.1, q49.2.1, q49.2.2.1, q49.2.2.2) else (f_X7_isIn N q47.2.1 q47.2.2.1 q47.2.2.2 a6 0 10000).bind fun q50 => if q50.1 = 0 then (f_X7_no N q50.2.1 q50.2.2.1 q50.2.2.2 2).bind fun q65 => some (q65.1, q65.2.1, q65.2.2.1, q65.2.2.2) else if mIn a1 8 then if (q50.2.2.1 0 a1.toNatClampNeg) < a6 then (f_X7_no N q50.2.1 q50.2.2.1 q50.2.2.2 3).bind fun q54 => some (q54.1, q54.2.1, q54.2.2.1, q54.2.2.2) else if mIn a2 8 then if (q50.2.2.1 0 a2.toNatClampNeg) < a6 then (f_X7_no N q50.2.1 q50.2.2.1 q50.2.2.2 3).bind fun q57 => some (q57.1, q57.2.1, q57.2.2.1, q57.2.2.2) else if (q50.2.2.1 22 0) = 16 then (f_X7_no N q50.2.1 q50.2.2.1 q50.2.2.2 3).bind fun q64 => some (q64.1, q64.2.1, q64.2.2.1, q64.2.2.2) else if mIn (2 * (q50.2.2.1 22 0)) 32 then if mIn ((2 * (q50.2.2.1 22 0)) + 1) 32 then if mIn (q50.2.2.1 22 0) 16 then some (q50.2.2.1 22 0, q50.2.1, (mUp (mUp (mUp (mUp (mUp (mUp (mUp (mUp (mUp (mUp q50.2.2.1 0 a1.toNatClampNeg ((q50.2.2.1 0 a1.toNatClampNeg) - a6)) 0 a2.toNatClampNeg (((mUp q50.2.2.1 0 a1.toNatClampNeg ((q50.2.2.1 0 a1.toNatClampNeg) - a6)) 0 a2.toNatClampNeg) - a6)) 5 (2 * (q50.2.2.1 22 0)).toNatClampNeg a1) 5 ((2 * (q50.2.2.1 22 0)) + 1).toNatClampNeg a2) 6 (2 * (q50.2.2.1 22 0)).toNatClampNeg a3) 6 ((2 * (q50.2.2.1 22 0)) + 1).toNatClampNeg a3) 8 (q50.2.2.1 22 0).toNatClampNeg a4) 9 (q50.2.2.1 22 0).toNatClampNeg a5) 10 (q50.2.2.1 22 0).toNatClampNeg a6) 22 0 (((mUp (mUp (mUp (mUp (mUp (mUp (mUp (mUp (mUp q50.2.2.1 0 a1.toNatClampNeg ((q50.2.2.1 0 a1.toNatClampNeg) - a6)) 0 a2.toNatClampNeg (((mUp q50.2.2.1 0 a1.toNatClampNeg ((q50.2.2.1 0 a1.toNatClampNeg) - a6)) 0 a2.toNatClampNeg) - a6)) 5 (2 * (q50.2.2.1 22 0)).toNatClampNeg a1) 5 ((2 * (q50.2.2.1 22 0)) + 1).toNatClampNeg a2) 6 (2 * (q50.2.2.1 22 0)).toNatClampNeg a3) 6 ((2 * (q50.2.2.1 22 0)) + 1).toNatClampNeg a3) 8 (q50.2.2.1 22 0).toNatClampNeg a4) 9 (q50.2.2.1 22 0).toNatClampNeg a5) 10 (q50.2.2.1 22 0).toNatClampNeg a6) 22 0) + 1)), q50.2.2.2) else none else none else none else none else none
set_option maxHeartbeats 4000000 in
set_option maxRecDepth 100000 in
theorem c_X7_begin {l : Launch} {D : va_G} {y : Nat → ClassId} {ad : Nat → Nat} {N : Nat} {th : Int32} {ρ α : mSt} {a1 : Int32} {a2 : Int32} {a3 : Int32} {a4 : Int32} {a5 : Int32} {a6 : Int32} {q : Int32 × Int32 × mSt × mSt} (h : f_X7_begin N th ρ α a1 a2 a3 a4 a5 a6 = some q) : mC l yX7_begin wsX7_begin { frames := 2, cells := 0, slots := 0, locals := 43 } D y 43 ad mN (mM y ad th ρ α) [.ref (ad 42), .int a1, .int a2, .int a3, .int a4, .int a5, .int a6] (some (.int q.1)) (mM y ad q.2.1 q.2.2.1 q.2.2.2) 0 0 := by
  refine m_start (cc := cX7_begin) (maxL := 8) (ret := (some .int)) (by decide) rfl (Nat.le_of_ble_eq_true rfl) (fun p e s m args below meth c ls hB _ V Z hl => ?_)
  obtain ⟨hx, hb, hml, hown, hts, hr, hlk⟩ := id hB
  have hl : lv_has ls 8 [(0, .ref (ad 42)), (1, .int a1), (2, .int a2), (3, .int a3), (4, .int a4), (5, .int a5), (6, .int a6)] := hl
  rw [f_X7_begin] at h
  refine lv_aload_n hx hb dX7_begin_0 rfl (lv_at hl 0 rfl) ?_
  refine lv_iconst (v := 0) hx hb dX7_begin_1 (by decide) ?_
  refine pM_th hx hb hts hown (fun _ h => List.mem_cons_of_mem _ (List.mem_append_left _ (List.mem_append_right _ h))) V (hts _ (List.mem_of_getElem? (i := 1) rfl)) dX7_begin_2 (fun H locs V => ?_)
  refine lv_aload_n hx hb dX7_begin_5 rfl (lv_at hl 0 rfl) ?_
  refine lv_iload_n hx hb dX7_begin_6 rfl (lv_at hl 1 rfl) ?_
  obtain ⟨q34, hq34, h⟩ := bd_s h
  refine kMM (As := [.int a1]) (rest := []) ⟨hx, hb, hml, hown, hts⟩ Z V (c_X7_isPlayer (l := l) (D := D) (y := y) (ad := ad) hq34) (cwV 1 hts gX7_begin_X7_isPlayer rfl rfl rfl (by decide +kernel) ⟨Nat.le_of_ble_eq_true rfl, Nat.le_of_ble_eq_true rfl⟩) (by omega) (mM_m y ad _ _ _) rfl rfl hl.1 rfl (Nat.le_of_ble_eq_true rfl) ⟨Nat.zero_le _, Nat.zero_le _⟩ rfl dX7_begin_7 (fun H locs V => ?_)
  refine lv_if_eq (tgt := 21) hx hb dX7_begin_10 (by decide) (fun hc35 => ?_) (fun hc35 => ?_)
  · replace h := ite_t hc35 h
    refine lv_aload_n hx hb dX7_begin_21 rfl (lv_at hl 0 rfl) ?_
    refine lv_iconst (v := 1) hx hb dX7_begin_22 (by decide) ?_
    obtain ⟨q36, hq36, h⟩ := bd_s h
    refine kMM (As := [.int 1]) (rest := []) ⟨hx, hb, hml, hown, hts⟩ Z V (c_X7_no (l := l) (D := D) (y := y) (ad := ad) hq36) (cwV 1 hts gX7_begin_X7_no rfl rfl rfl (by decide +kernel) ⟨Nat.le_of_ble_eq_true rfl, Nat.le_of_ble_eq_true rfl⟩) (by omega) (mM_m y ad _ _ _) rfl rfl hl.1 rfl (Nat.le_of_ble_eq_true rfl) ⟨Nat.zero_le _, Nat.zero_le _⟩ rfl dX7_begin_23 (fun H locs V => ?_)
    obtain rfl := Option.some.inj h
    exact m_iret hx hb hr hlk V (Nat.zero_le _) (Nat.zero_le _) dX7_begin_26
  · replace h := ite_f hc35 h
    refine lv_aload_n hx hb dX7_begin_13 rfl (lv_at hl 0 rfl) ?_
    refine lv_iload_n hx hb dX7_begin_14 rfl (lv_at hl 2 rfl) ?_
    obtain ⟨q37, hq37, h⟩ := bd_s h
    refine kMM (As := [.int a2]) (rest := []) ⟨hx, hb, hml, hown, hts⟩ Z V (c_X7_isPlayer (l := l) (D := D) (y := y) (ad := ad) hq37) (cwV 1 hts gX7_begin_X7_isPlayer rfl rfl rfl (by decide +kernel) ⟨Nat.le_of_ble_eq_true rfl, Nat.le_of_ble_eq_true rfl⟩) (by omega) (mM_m y ad _ _ _) rfl rfl hl.1 rfl (Nat.le_of_ble_eq_true rfl) ⟨Nat.zero_le _, Nat.zero_le _⟩ rfl dX7_begin_15 (fun H locs V => ?_)
    refine lv_if_ne (tgt := 27) hx hb dX7_begin_18 (by decide) (fun hc38 => ?_) (fun hc38 => ?_)
    · replace h := ite_f hc38 h
      refine lv_iload_n hx hb dX7_begin_27 rfl (lv_at hl 1 rfl) ?_
      refine lv_iload_n hx hb dX7_begin_28 rfl (lv_at hl 2 rfl) ?_
      refine lv_icmp_eq (tgt := 77) hx hb dX7_begin_29 (by decide) (fun hc39 => ?_) (fun hc39 => ?_)
      · replace h := ite_t hc39 h
        refine lv_aload_n hx hb dX7_begin_77 rfl (lv_at hl 0 rfl) ?_
        refine lv_iconst (v := 2) hx hb dX7_begin_78 (by decide) ?_
        obtain ⟨q40, hq40, h⟩ := bd_s h
        refine kMM (As := [.int 2]) (rest := []) ⟨hx, hb, hml, hown, hts⟩ Z V (c_X7_no (l := l) (D := D) (y := y) (ad := ad) hq40) (cwV 1 hts gX7_begin_X7_no rfl rfl rfl (by decide +kernel) ⟨Nat.le_of_ble_eq_true rfl, Nat.le_of_ble_eq_true rfl⟩) (by omega) (mM_m y ad _ _ _) rfl rfl hl.1 rfl (Nat.le_of_ble_eq_true rfl) ⟨Nat.zero_le _, Nat.zero_le _⟩ rfl dX7_begin_79 (fun H locs V => ?_)
        obtain rfl := Option.some.inj h
        exact m_iret hx hb hr hlk V (Nat.zero_le _) (Nat.zero_le _) dX7_begin_82
      · replace h := ite_f hc39 h
        refine lv_iload_n hx hb dX7_begin_32 rfl (lv_at hl 3 rfl) ?_
        refine lv_iconst (v := 1) hx hb dX7_begin_33 (by decide) ?_
        refine lv_sipush (v := 7200) hx hb dX7_begin_34 (by decide) ?_
        obtain ⟨q41, hq41, h⟩ := bd_s h
        refine kMMs (As := [.int a3, .int 1, .int 7200]) (rest := []) ⟨hx, hb, hml, hown, hts⟩ Z V (c_X7_isIn (l := l) (D := D) (y := y) (ad := ad) hq41) (va_cwS 3 hts gX7_begin_X7_isIn rfl rfl rfl (by decide +kernel) ⟨Nat.le_of_ble_eq_true rfl, Nat.le_of_ble_eq_true rfl⟩) rfl hl.1 rfl (Nat.le_of_ble_eq_true rfl) ⟨Nat.zero_le _, Nat.zero_le _⟩ rfl dX7_begin_37 (fun H locs V => ?_)
        refine lv_if_eq (tgt := 77) hx hb dX7_begin_40 (by decide) (fun hc42 => ?_) (fun hc42 => ?_)
        · replace h := ite_t hc42 h
          refine lv_aload_n hx hb dX7_begin_77 rfl (lv_at hl 0 rfl) ?_
          refine lv_iconst (v := 2) hx hb dX7_begin_78 (by decide) ?_
          obtain ⟨q43, hq43, h⟩ := bd_s h
          refine kMM (As := [.int 2]) (rest := []) ⟨hx, hb, hml, hown, hts⟩ Z V (c_X7_no (l := l) (D := D) (y := y) (ad := ad) hq43) (cwV 1 hts gX7_begin_X7_no rfl rfl rfl (by decide +kernel) ⟨Nat.le_of_ble_eq_true rfl, Nat.le_of_ble_eq_true rfl⟩) (by omega) (mM_m y ad _ _ _) rfl rfl hl.1 rfl (Nat.le_of_ble_eq_true rfl) ⟨Nat.zero_le _, Nat.zero_le _⟩ rfl dX7_begin_79 (fun H locs V => ?_)
          obtain rfl := Option.some.inj h
          exact m_iret hx hb hr hlk V (Nat.zero_le _) (Nat.zero_le _) dX7_begin_82
        · replace h := ite_f hc42 h
          refine lv_iload hx hb dX7_begin_43 (lv_at hl 4 rfl) ?_
          refine lv_iconst (v := 0) hx hb dX7_begin_45 (by decide) ?_
          refine lv_bipush (v := 30) hx hb dX7_begin_46 (by decide) ?_
          obtain ⟨q44, hq44, h⟩ := bd_s h
          refine kMMs (As := [.int a4, .int 0, .int 30]) (rest := []) ⟨hx, hb, hml, hown, hts⟩ Z V (c_X7_isIn (l := l) (D := D) (y := y) (ad := ad) hq44) (va_cwS 3 hts gX7_begin_X7_isIn rfl rfl rfl (by decide +kernel) ⟨Nat.le_of_ble_eq_true rfl, Nat.le_of_ble_eq_true rfl⟩) rfl hl.1 rfl (Nat.le_of_ble_eq_true rfl) ⟨Nat.zero_le _, Nat.zero_le _⟩ rfl dX7_begin_48 (fun H locs V => ?_)
          refine lv_if_eq (tgt := 77) hx hb dX7_begin_51 (by decide) (fun hc45 => ?_) (fun hc45 => ?_)
          · replace h := ite_t hc45 h
            refine lv_aload_n hx hb dX7_begin_77 rfl (lv_at hl 0 rfl) ?_
            refine lv_iconst (v := 2) hx hb dX7_begin_78 (by decide) ?_
            obtain ⟨q46, hq46, h⟩ := bd_s h
            refine kMM (As := [.int 2]) (rest := []) ⟨hx, hb, hml, hown, hts⟩ Z V (c_X7_no (l := l) (D := D) (y := y) (ad := ad) hq46) (cwV 1 hts gX7_begin_X7_no rfl rfl rfl (by decide +kernel) ⟨Nat.le_of_ble_eq_true rfl, Nat.le_of_ble_eq_true rfl⟩) (by omega) (mM_m y ad _ _ _) rfl rfl hl.1 rfl (Nat.le_of_ble_eq_true rfl) ⟨Nat.zero_le _, Nat.zero_le _⟩ rfl dX7_begin_79 (fun H locs V => ?_)
            obtain rfl := Option.some.inj h
            exact m_iret hx hb hr hlk V (Nat.zero_le _) (Nat.zero_le _) dX7_begin_82
          · replace h := ite_f hc45 h
            refine lv_iload hx hb dX7_begin_54 (lv_at hl 5 rfl) ?_
            refine lv_iconst (v := 0) hx hb dX7_begin_56 (by decide) ?_
            refine lv_bipush (v := 30) hx hb dX7_begin_57 (by decide) ?_
            obtain ⟨q47, hq47, h⟩ := bd_s h
            refine kMMs (As := [.int a5, .int 0, .int 30]) (rest := []) ⟨hx, hb, hml, hown, hts⟩ Z V (c_X7_isIn (l := l) (D := D) (y := y) (ad := ad) hq47) (va_cwS 3 hts gX7_begin_X7_isIn rfl rfl rfl (by decide +kernel) ⟨Nat.le_of_ble_eq_true rfl, Nat.le_of_ble_eq_true rfl⟩) rfl hl.1 rfl (Nat.le_of_ble_eq_true rfl) ⟨Nat.zero_le _, Nat.zero_le _⟩ rfl dX7_begin_59 (fun H locs V => ?_)
            refine lv_if_eq (tgt := 77) hx hb dX7_begin_62 (by decide) (fun hc48 => ?_) (fun hc48 => ?_)
            · replace h := ite_t hc48 h
              refine lv_aload_n hx hb dX7_begin_77 rfl (lv_at hl 0 rfl) ?_
              refine lv_iconst (v := 2) hx hb dX7_begin_78 (by decide) ?_
              obtain ⟨q49, hq49, h⟩ := bd_s h
              refine kMM (As := [.int 2]) (rest := []) ⟨hx, hb, hml, hown, hts⟩ Z V (c_X7_no (l := l) (D := D) (y := y) (ad := ad) hq49) (cwV 1 hts gX7_begin_X7_no rfl rfl rfl (by decide +kernel) ⟨Nat.le_of_ble_eq_true rfl, Nat.le_of_ble_eq_true rfl⟩) (by omega) (mM_m y ad _ _ _) rfl rfl hl.1 rfl (Nat.le_of_ble_eq_true rfl) ⟨Nat.zero_le _, Nat.zero_le _⟩ rfl dX7_begin_79 (fun H locs V => ?_)
              obtain rfl := Option.some.inj h
              exact m_iret hx hb hr hlk V (Nat.zero_le _) (Nat.zero_le _) dX7_begin_82
            · replace h := ite_f hc48 h
              refine lv_iload hx hb dX7_begin_65 (lv_at hl 6 rfl) ?_
              refine lv_iconst (v := 0) hx hb dX7_begin_67 (by decide) ?_
              refine lv_sipush (v := 10000) hx hb dX7_begin_68 (by decide) ?_
              obtain ⟨q50, hq50, h⟩ := bd_s h
              refine kMMs (As := [.int a6, .int 0, .int 10000]) (rest := []) ⟨hx, hb, hml, hown, hts⟩ Z V (c_X7_isIn (l := l) (D := D) (y := y) (ad := ad) hq50) (va_cwS 3 hts gX7_begin_X7_isIn rfl rfl rfl (by decide +kernel) ⟨Nat.le_of_ble_eq_true rfl, Nat.le_of_ble_eq_true rfl⟩) rfl hl.1 rfl (Nat.le_of_ble_eq_true rfl) ⟨Nat.zero_le _, Nat.zero_le _⟩ rfl dX7_begin_71 (fun H locs V => ?_)
              refine lv_if_ne (tgt := 83) hx hb dX7_begin_74 (by decide) (fun hc51 => ?_) (fun hc51 => ?_)
              · replace h := ite_f hc51 h
                refine lv_aload_n hx hb dX7_begin_83 rfl (lv_at hl 0 rfl) ?_
                refine rM_s hx hb hts hown (fun _ h => List.mem_cons_of_mem _ (List.mem_append_left _ (List.mem_append_right _ h))) V (hts _ (List.mem_of_getElem? (i := 2) rfl)) dX7_begin_84 ?_
                refine gM_T hx hb hts hown (fun _ h => List.mem_cons_of_mem _ (List.mem_append_right _ h)) V 2 (by decide) (mN_use (q := (35, "coins", "[I")) Z 1 rfl) (v := .ref (ad 1)) rfl dX7_begin_87 ?_
                refine lv_iload_n hx hb dX7_begin_90 rfl (lv_at hl 1 rfl) ?_
                obtain ⟨hi52, h⟩ := gd_s h
                refine aM_I hx hb V 0 1 8 (by decide) rfl rfl hi52 dX7_begin_91 ?_
                refine lv_iload hx hb dX7_begin_92 (lv_at hl 6 rfl) ?_
                refine lv_icmp_lt (tgt := 123) hx hb dX7_begin_94 (by decide) (fun hc53 => ?_) (fun hc53 => ?_)
                · replace h := ite_t hc53 h
                  refine lv_aload_n hx hb dX7_begin_123 rfl (lv_at hl 0 rfl) ?_
                  refine lv_iconst (v := 3) hx hb dX7_begin_124 (by decide) ?_
                  obtain ⟨q54, hq54, h⟩ := bd_s h
                  refine kMM (As := [.int 3]) (rest := []) ⟨hx, hb, hml, hown, hts⟩ Z V (c_X7_no (l := l) (D := D) (y := y) (ad := ad) hq54) (cwV 1 hts gX7_begin_X7_no rfl rfl rfl (by decide +kernel) ⟨Nat.le_of_ble_eq_true rfl, Nat.le_of_ble_eq_true rfl⟩) (by omega) (mM_m y ad _ _ _) rfl rfl hl.1 rfl (Nat.le_of_ble_eq_true rfl) ⟨Nat.zero_le _, Nat.zero_le _⟩ rfl dX7_begin_125 (fun H locs V => ?_)
                  obtain rfl := Option.some.inj h
                  exact m_iret hx hb hr hlk V (Nat.zero_le _) (Nat.zero_le _) dX7_begin_128
                · replace h := ite_f hc53 h
                  refine lv_aload_n hx hb dX7_begin_97 rfl (lv_at hl 0 rfl) ?_
                  refine rM_s hx hb hts hown (fun _ h => List.mem_cons_of_mem _ (List.mem_append_left _ (List.mem_append_right _ h))) V (hts _ (List.mem_of_getElem? (i := 2) rfl)) dX7_begin_98 ?_
                  refine gM_T hx hb hts hown (fun _ h => List.mem_cons_of_mem _ (List.mem_append_right _ h)) V 2 (by decide) (mN_use (q := (35, "coins", "[I")) Z 1 rfl) (v := .ref (ad 1)) rfl dX7_begin_101 ?_
                  refine lv_iload_n hx hb dX7_begin_104 rfl (lv_at hl 2 rfl) ?_
                  obtain ⟨hi55, h⟩ := gd_s h
                  refine aM_I hx hb V 0 1 8 (by decide) rfl rfl hi55 dX7_begin_105 ?_
                  refine lv_iload hx hb dX7_begin_106 (lv_at hl 6 rfl) ?_
                  refine lv_icmp_lt (tgt := 123) hx hb dX7_begin_108 (by decide) (fun hc56 => ?_) (fun hc56 => ?_)
                  · replace h := ite_t hc56 h
                    refine lv_aload_n hx hb dX7_begin_123 rfl (lv_at hl 0 rfl) ?_
                    refine lv_iconst (v := 3) hx hb dX7_begin_124 (by decide) ?_
                    obtain ⟨q57, hq57, h⟩ := bd_s h
                    refine kMM (As := [.int 3]) (rest := []) ⟨hx, hb, hml, hown, hts⟩ Z V (c_X7_no (l := l) (D := D) (y := y) (ad := ad) hq57) (cwV 1 hts gX7_begin_X7_no rfl rfl rfl (by decide +kernel) ⟨Nat.le_of_ble_eq_true rfl, Nat.le_of_ble_eq_true rfl⟩) (by omega) (mM_m y ad _ _ _) rfl rfl hl.1 rfl (Nat.le_of_ble_eq_true rfl) ⟨Nat.zero_le _, Nat.zero_le _⟩ rfl dX7_begin_125 (fun H locs V => ?_)
                    obtain rfl := Option.some.inj h
                    exact m_iret hx hb hr hlk V (Nat.zero_le _) (Nat.zero_le _) dX7_begin_128
                  · replace h := ite_f hc56 h
                    refine lv_aload_n hx hb dX7_begin_111 rfl (lv_at hl 0 rfl) ?_
                    refine rM_s hx hb hts hown (fun _ h => List.mem_cons_of_mem _ (List.mem_append_left _ (List.mem_append_right _ h))) V (hts _ (List.mem_of_getElem? (i := 2) rfl)) dX7_begin_112 ?_
                    refine gM_T hx hb hts hown (fun _ h => List.mem_cons_of_mem _ (List.mem_append_right _ h)) V 7 (by decide) (mN_use (q := (51, "games", "I")) Z 6 rfl) (v := .int (q50.2.2.1 22 0)) rfl dX7_begin_115 ?_
                    refine lv_bipush (v := 16) hx hb dX7_begin_118 (by decide) ?_
                    refine lv_icmp_ne (tgt := 129) hx hb dX7_begin_120 (by decide) (fun hc58 => ?_) (fun hc58 => ?_)
                    · replace h := ite_f hc58 h
                      refine lv_aload_n hx hb dX7_begin_129 rfl (lv_at hl 0 rfl) ?_
                      refine rM_s hx hb hts hown (fun _ h => List.mem_cons_of_mem _ (List.mem_append_left _ (List.mem_append_right _ h))) V (hts _ (List.mem_of_getElem? (i := 2) rfl)) dX7_begin_130 ?_
                      refine gM_T hx hb hts hown (fun _ h => List.mem_cons_of_mem _ (List.mem_append_right _ h)) V 7 (by decide) (mN_use (q := (51, "games", "I")) Z 6 rfl) (v := .int (q50.2.2.1 22 0)) rfl dX7_begin_133 ?_
                      refine lv_istore (lv' := [(7, .int (q50.2.2.1 22 0)), (0, .ref (ad 42)), (1, .int a1), (2, .int a2), (3, .int a3), (4, .int a4), (5, .int a5), (6, .int a6)]) hx hb dX7_begin_136 hl (by decide) rfl (fun ls hl => ?_)
                      refine lv_aload_n hx hb dX7_begin_138 rfl (lv_at hl 1 rfl) ?_
                      refine rM_s hx hb hts hown (fun _ h => List.mem_cons_of_mem _ (List.mem_append_left _ (List.mem_append_right _ h))) V (hts _ (List.mem_of_getElem? (i := 2) rfl)) dX7_begin_139 ?_
                      refine gM_T hx hb hts hown (fun _ h => List.mem_cons_of_mem _ (List.mem_append_right _ h)) V 2 (by decide) (mN_use (q := (35, "coins", "[I")) Z 1 rfl) (v := .ref (ad 1)) rfl dX7_begin_142 ?_
                      refine lv_iload_n hx hb dX7_begin_145 rfl (lv_at hl 2 rfl) ?_
                      refine lv_dup2_11 hx hb dX7_begin_146 rfl rfl ?_
                      refine aM_I hx hb V 0 1 8 (by decide) rfl rfl hi52 dX7_begin_147 ?_
                      refine lv_iload hx hb dX7_begin_148 (lv_at hl 7 rfl) ?_
                      refine lv_isub hx hb dX7_begin_150 ?_
                      refine bM_I hx hb V 0 1 8 (by decide) rfl rfl hi52 dX7_begin_151 (fun H locs V => ?_)
                      refine lv_aload_n hx hb dX7_begin_152 rfl (lv_at hl 1 rfl) ?_
                      refine rM_s hx hb hts hown (fun _ h => List.mem_cons_of_mem _ (List.mem_append_left _ (List.mem_append_right _ h))) V (hts _ (List.mem_of_getElem? (i := 2) rfl)) dX7_begin_153 ?_
                      refine gM_T hx hb hts hown (fun _ h => List.mem_cons_of_mem _ (List.mem_append_right _ h)) V 2 (by decide) (mN_use (q := (35, "coins", "[I")) Z 1 rfl) (v := .ref (ad 1)) rfl dX7_begin_156 ?_
                      refine lv_iload_n hx hb dX7_begin_159 rfl (lv_at hl 3 rfl) ?_
                      refine lv_dup2_11 hx hb dX7_begin_160 rfl rfl ?_
                      refine aM_I hx hb V 0 1 8 (by decide) rfl rfl hi55 dX7_begin_161 ?_
                      refine lv_iload hx hb dX7_begin_162 (lv_at hl 7 rfl) ?_
                      refine lv_isub hx hb dX7_begin_164 ?_
                      refine bM_I hx hb V 0 1 8 (by decide) rfl rfl hi55 dX7_begin_165 (fun H locs V => ?_)
                      refine lv_aload_n hx hb dX7_begin_166 rfl (lv_at hl 1 rfl) ?_
                      refine rM_s hx hb hts hown (fun _ h => List.mem_cons_of_mem _ (List.mem_append_left _ (List.mem_append_right _ h))) V (hts _ (List.mem_of_getElem? (i := 2) rfl)) dX7_begin_167 ?_
                      refine gM_T hx hb hts hown (fun _ h => List.mem_cons_of_mem _ (List.mem_append_right _ h)) V 8 (by decide) (mN_use (q := (58, "player", "[I")) Z 7 rfl) (v := .ref (ad 6)) rfl dX7_begin_170 ?_
                      refine lv_iconst (v := 2) hx hb dX7_begin_173 (by decide) ?_
                      refine lv_iload hx hb dX7_begin_174 (lv_at hl 0 rfl) ?_
                      refine lv_imul hx hb dX7_begin_176 ?_
                      refine lv_iload_n hx hb dX7_begin_177 rfl (lv_at hl 2 rfl) ?_
                      obtain ⟨hi61, h⟩ := gd_s h
                      refine bM_I hx hb V 5 6 32 (by decide) rfl rfl hi61 dX7_begin_178 (fun H locs V => ?_)
                      refine lv_aload_n hx hb dX7_begin_179 rfl (lv_at hl 1 rfl) ?_
                      refine rM_s hx hb hts hown (fun _ h => List.mem_cons_of_mem _ (List.mem_append_left _ (List.mem_append_right _ h))) V (hts _ (List.mem_of_getElem? (i := 2) rfl)) dX7_begin_180 ?_
                      refine gM_T hx hb hts hown (fun _ h => List.mem_cons_of_mem _ (List.mem_append_right _ h)) V 8 (by decide) (mN_use (q := (58, "player", "[I")) Z 7 rfl) (v := .ref (ad 6)) rfl dX7_begin_183 ?_
                      refine lv_iconst (v := 2) hx hb dX7_begin_186 (by decide) ?_
                      refine lv_iload hx hb dX7_begin_187 (lv_at hl 0 rfl) ?_
                      refine lv_imul hx hb dX7_begin_189 ?_
                      refine lv_iconst (v := 1) hx hb dX7_begin_190 (by decide) ?_
                      refine lv_iadd hx hb dX7_begin_191 ?_
                      refine lv_iload_n hx hb dX7_begin_192 rfl (lv_at hl 3 rfl) ?_
                      obtain ⟨hi62, h⟩ := gd_s h
                      refine bM_I hx hb V 5 6 32 (by decide) rfl rfl hi62 dX7_begin_193 (fun H locs V => ?_)
                      refine lv_aload_n hx hb dX7_begin_194 rfl (lv_at hl 1 rfl) ?_
                      refine rM_s hx hb hts hown (fun _ h => List.mem_cons_of_mem _ (List.mem_append_left _ (List.mem_append_right _ h))) V (hts _ (List.mem_of_getElem? (i := 2) rfl)) dX7_begin_195 ?_
                      refine gM_T hx hb hts hown (fun _ h => List.mem_cons_of_mem _ (List.mem_append_right _ h)) V 9 (by decide) (mN_use (q := (123, "clock", "[I")) Z 17 rfl) (v := .ref (ad 7)) rfl dX7_begin_198 ?_
                      refine lv_iconst (v := 2) hx hb dX7_begin_201 (by decide) ?_
                      refine lv_iload hx hb dX7_begin_202 (lv_at hl 0 rfl) ?_
                      refine lv_imul hx hb dX7_begin_204 ?_
                      refine lv_iload_n hx hb dX7_begin_205 rfl (lv_at hl 4 rfl) ?_
                      refine bM_I hx hb V 6 7 32 (by decide) rfl rfl hi61 dX7_begin_206 (fun H locs V => ?_)
                      refine lv_aload_n hx hb dX7_begin_207 rfl (lv_at hl 1 rfl) ?_
                      refine rM_s hx hb hts hown (fun _ h => List.mem_cons_of_mem _ (List.mem_append_left _ (List.mem_append_right _ h))) V (hts _ (List.mem_of_getElem? (i := 2) rfl)) dX7_begin_208 ?_
                      refine gM_T hx hb hts hown (fun _ h => List.mem_cons_of_mem _ (List.mem_append_right _ h)) V 9 (by decide) (mN_use (q := (123, "clock", "[I")) Z 17 rfl) (v := .ref (ad 7)) rfl dX7_begin_211 ?_
                      refine lv_iconst (v := 2) hx hb dX7_begin_214 (by decide) ?_
                      refine lv_iload hx hb dX7_begin_215 (lv_at hl 0 rfl) ?_
                      refine lv_imul hx hb dX7_begin_217 ?_
                      refine lv_iconst (v := 1) hx hb dX7_begin_218 (by decide) ?_
                      refine lv_iadd hx hb dX7_begin_219 ?_
                      refine lv_iload_n hx hb dX7_begin_220 rfl (lv_at hl 4 rfl) ?_
                      refine bM_I hx hb V 6 7 32 (by decide) rfl rfl hi62 dX7_begin_221 (fun H locs V => ?_)
                      refine lv_aload_n hx hb dX7_begin_222 rfl (lv_at hl 1 rfl) ?_
                      refine rM_s hx hb hts hown (fun _ h => List.mem_cons_of_mem _ (List.mem_append_left _ (List.mem_append_right _ h))) V (hts _ (List.mem_of_getElem? (i := 2) rfl)) dX7_begin_223 ?_
                      refine gM_T hx hb hts hown (fun _ h => List.mem_cons_of_mem _ (List.mem_append_right _ h)) V 11 (by decide) (mN_use (q := (126, "increment", "[I")) Z 18 rfl) (v := .ref (ad 9)) rfl dX7_begin_226 ?_
                      refine lv_iload hx hb dX7_begin_229 (lv_at hl 0 rfl) ?_
                      refine lv_iload hx hb dX7_begin_231 (lv_at hl 5 rfl) ?_
                      obtain ⟨hi63, h⟩ := gd_s h
                      refine bM_I hx hb V 8 9 16 (by decide) rfl rfl hi63 dX7_begin_233 (fun H locs V => ?_)
                      refine lv_aload_n hx hb dX7_begin_234 rfl (lv_at hl 1 rfl) ?_
                      refine rM_s hx hb hts hown (fun _ h => List.mem_cons_of_mem _ (List.mem_append_left _ (List.mem_append_right _ h))) V (hts _ (List.mem_of_getElem? (i := 2) rfl)) dX7_begin_235 ?_
                      refine gM_T hx hb hts hown (fun _ h => List.mem_cons_of_mem _ (List.mem_append_right _ h)) V 12 (by decide) (mN_use (q := (129, "delay", "[I")) Z 19 rfl) (v := .ref (ad 10)) rfl dX7_begin_238 ?_
                      refine lv_iload hx hb dX7_begin_241 (lv_at hl 0 rfl) ?_
                      refine lv_iload hx hb dX7_begin_243 (lv_at hl 6 rfl) ?_
                      refine bM_I hx hb V 9 10 16 (by decide) rfl rfl hi63 dX7_begin_245 (fun H locs V => ?_)
                      refine lv_aload_n hx hb dX7_begin_246 rfl (lv_at hl 1 rfl) ?_
                      refine rM_s hx hb hts hown (fun _ h => List.mem_cons_of_mem _ (List.mem_append_left _ (List.mem_append_right _ h))) V (hts _ (List.mem_of_getElem? (i := 2) rfl)) dX7_begin_247 ?_
                      refine gM_T hx hb hts hown (fun _ h => List.mem_cons_of_mem _ (List.mem_append_right _ h)) V 13 (by decide) (mN_use (q := (132, "stake", "[I")) Z 20 rfl) (v := .ref (ad 11)) rfl dX7_begin_250 ?_
                      refine lv_iload hx hb dX7_begin_253 (lv_at hl 0 rfl) ?_
                      refine lv_iload hx hb dX7_begin_255 (lv_at hl 7 rfl) ?_
                      refine bM_I hx hb V 10 11 16 (by decide) rfl rfl hi63 dX7_begin_257 (fun H locs V => ?_)
                      refine lv_aload_n hx hb dX7_begin_258 rfl (lv_at hl 1 rfl) ?_
                      refine rM_s hx hb hts hown (fun _ h => List.mem_cons_of_mem _ (List.mem_append_left _ (List.mem_append_right _ h))) V (hts _ (List.mem_of_getElem? (i := 2) rfl)) dX7_begin_259 ?_
                      refine lv_dup hx hb dX7_begin_262 rfl ?_
                      refine gM_T hx hb hts hown (fun _ h => List.mem_cons_of_mem _ (List.mem_append_right _ h)) V 7 (by decide) (mN_use (q := (51, "games", "I")) Z 6 rfl) (v := .int ((mUp (mUp (mUp (mUp (mUp (mUp (mUp (mUp (mUp q50.2.2.1 0 a1.toNatClampNeg ((q50.2.2.1 0 a1.toNatClampNeg) - a6)) 0 a2.toNatClampNeg (((mUp q50.2.2.1 0 a1.toNatClampNeg ((q50.2.2.1 0 a1.toNatClampNeg) - a6)) 0 a2.toNatClampNeg) - a6)) 5 (2 * (q50.2.2.1 22 0)).toNatClampNeg a1) 5 ((2 * (q50.2.2.1 22 0)) + 1).toNatClampNeg a2) 6 (2 * (q50.2.2.1 22 0)).toNatClampNeg a3) 6 ((2 * (q50.2.2.1 22 0)) + 1).toNatClampNeg a3) 8 (q50.2.2.1 22 0).toNatClampNeg a4) 9 (q50.2.2.1 22 0).toNatClampNeg a5) 10 (q50.2.2.1 22 0).toNatClampNeg a6) 22 0)) rfl dX7_begin_263 ?_
                      refine lv_iconst (v := 1) hx hb dX7_begin_266 (by decide) ?_
                      refine lv_iadd hx hb dX7_begin_267 ?_
                      refine pM_T hx hb hts hown (fun _ h => List.mem_cons_of_mem _ (List.mem_append_right _ h)) V 7 22 (by decide) (by decide) (mN_use (q := (51, "games", "I")) Z 6 rfl) rfl (mR0_s22 _ _ _) dX7_begin_268 (fun H locs V => ?_)
                      refine lv_iload hx hb dX7_begin_271 (lv_at hl 0 rfl) ?_
                      obtain rfl := Option.some.inj h
                      exact m_iret hx hb hr hlk V (Nat.zero_le _) (Nat.zero_le _) dX7_begin_273
                    · replace h := ite_t hc58 h
                      refine lv_aload_n hx hb dX7_begin_123 rfl (lv_at hl 0 rfl) ?_
                      refine lv_iconst (v := 3) hx hb dX7_begin_124 (by decide) ?_
                      obtain ⟨q64, hq64, h⟩ := bd_s h
                      refine kMM (As := [.int 3]) (rest := []) ⟨hx, hb, hml, hown, hts⟩ Z V (c_X7_no (l := l) (D := D) (y := y) (ad := ad) hq64) (cwV 1 hts gX7_begin_X7_no rfl rfl rfl (by decide +kernel) ⟨Nat.le_of_ble_eq_true rfl, Nat.le_of_ble_eq_true rfl⟩) (by omega) (mM_m y ad _ _ _) rfl rfl hl.1 rfl (Nat.le_of_ble_eq_true rfl) ⟨Nat.zero_le _, Nat.zero_le _⟩ rfl dX7_begin_125 (fun H locs V => ?_)
                      obtain rfl := Option.some.inj h
                      exact m_iret hx hb hr hlk V (Nat.zero_le _) (Nat.zero_le _) dX7_begin_128
              · replace h := ite_t hc51 h
                refine lv_aload_n hx hb dX7_begin_77 rfl (lv_at hl 0 rfl) ?_
                refine lv_iconst (v := 2) hx hb dX7_begin_78 (by decide) ?_
                obtain ⟨q65, hq65, h⟩ := bd_s h
                refine kMM (As := [.int 2]) (rest := []) ⟨hx, hb, hml, hown, hts⟩ Z V (c_X7_no (l := l) (D := D) (y := y) (ad := ad) hq65) (cwV 1 hts gX7_begin_X7_no rfl rfl rfl (by decide +kernel) ⟨Nat.le_of_ble_eq_true rfl, Nat.le_of_ble_eq_true rfl⟩) (by omega) (mM_m y ad _ _ _) rfl rfl hl.1 rfl (Nat.le_of_ble_eq_true rfl) ⟨Nat.zero_le _, Nat.zero_le _⟩ rfl dX7_begin_79 (fun H locs V => ?_)
                obtain rfl := Option.some.inj h
                exact m_iret hx hb hr hlk V (Nat.zero_le _) (Nat.zero_le _) dX7_begin_82
    · replace h := ite_t hc38 h
      refine lv_aload_n hx hb dX7_begin_21 rfl (lv_at hl 0 rfl) ?_
      refine lv_iconst (v := 1) hx hb dX7_begin_22 (by decide) ?_
      obtain ⟨q66, hq66, h⟩ := bd_s h
      refine kMM (As := [.int 1]) (rest := []) ⟨hx, hb, hml, hown, hts⟩ Z V (c_X7_no (l := l) (D := D) (y := y) (ad := ad) hq66) (cwV 1 hts gX7_begin_X7_no rfl rfl rfl (by decide +kernel) ⟨Nat.le_of_ble_eq_true rfl, Nat.le_of_ble_eq_true rfl⟩) (by omega) (mM_m y ad _ _ _) rfl rfl hl.1 rfl (Nat.le_of_ble_eq_true rfl) ⟨Nat.zero_le _, Nat.zero_le _⟩ rfl dX7_begin_23 (fun H locs V => ?_)
      obtain rfl := Option.some.inj h
      exact m_iret hx hb hr hlk V (Nat.zero_le _) (Nat.zero_le _) dX7_begin_26
-- X7_isGame
def f_X7_isGame (N : Nat) (th : Int32) (ρ α : mSt) (a1 : Int32) : Option (Int32 × Int32 × mSt × mSt) := (f_X7_isIn N th ρ α a1 0 ((ρ 22 0) - 1)).bind fun q3 => if q3.1 = 0 ∨ q3.1 = 1 then some (q3.1, q3.2.1, q3.2.2.1, q3.2.2.2) else none
set_option maxHeartbeats 4000000 in
set_option maxRecDepth 100000 in
theorem c_X7_isGame {l : Launch} {D : va_G} {y : Nat → ClassId} {ad : Nat → Nat} {N : Nat} {th : Int32} {ρ α : mSt} {a1 : Int32} {q : Int32 × Int32 × mSt × mSt} (h : f_X7_isGame N th ρ α a1 = some q) : mC l yX7_isGame wsX7_isGame { frames := 1, cells := 0, slots := 0, locals := 22 } D y 43 ad mN (mM y ad th ρ α) [.ref (ad 42), .int a1] (some (.int q.1)) (mM y ad q.2.1 q.2.2.1 q.2.2.2) 0 0 := by
  refine m_start (cc := cX7_isGame) (maxL := 2) (ret := (some .boolean)) (by decide) rfl (Nat.le_of_ble_eq_true rfl) (fun p e s m args below meth c ls hB _ V Z hl => ?_)
  obtain ⟨hx, hb, hml, hown, hts, hr, hlk⟩ := id hB
  have hl : lv_has ls 2 [(0, .ref (ad 42)), (1, .int a1)] := hl
  rw [f_X7_isGame] at h
  refine lv_iload_n hx hb dX7_isGame_0 rfl (lv_at hl 1 rfl) ?_
  refine lv_iconst (v := 0) hx hb dX7_isGame_1 (by decide) ?_
  refine lv_aload_n hx hb dX7_isGame_2 rfl (lv_at hl 0 rfl) ?_
  refine rM_s hx hb hts hown (fun _ h => List.mem_cons_of_mem _ (List.mem_append_left _ (List.mem_append_right _ h))) V (hts _ (List.mem_of_getElem? (i := 1) rfl)) dX7_isGame_3 ?_
  refine gM_T hx hb hts hown (fun _ h => List.mem_cons_of_mem _ (List.mem_append_right _ h)) V 7 (by decide) (mN_use (q := (51, "games", "I")) Z 6 rfl) (v := .int (ρ 22 0)) rfl dX7_isGame_6 ?_
  refine lv_iconst (v := 1) hx hb dX7_isGame_9 (by decide) ?_
  refine lv_isub hx hb dX7_isGame_10 ?_
  obtain ⟨q3, hq3, h⟩ := bd_s h
  refine kMMs (As := [.int a1, .int 0, .int ((ρ 22 0) - 1)]) (rest := []) ⟨hx, hb, hml, hown, hts⟩ Z V (c_X7_isIn (l := l) (D := D) (y := y) (ad := ad) hq3) (va_cwS 3 hts gX7_isGame_X7_isIn rfl rfl rfl (by decide +kernel) ⟨Nat.le_of_ble_eq_true rfl, Nat.le_of_ble_eq_true rfl⟩) rfl hl.1 rfl (Nat.le_of_ble_eq_true rfl) ⟨Nat.zero_le _, Nat.zero_le _⟩ rfl dX7_isGame_11 (fun H locs V => ?_)
  obtain ⟨hz4, h⟩ := gd_s h
  obtain rfl := Option.some.inj h
  exact m_zret hx hb hr hlk V hz4 (Nat.zero_le _) (Nat.zero_le _) dX7_isGame_14
-- X7_press
def f_X7_press (N : Nat) (th : Int32) (ρ α : mSt) (a1 : Int32) : Option (Int32 × Int32 × mSt × mSt) := (f_X7_isGame N 0 ρ α a1).bind fun q13 => if q13.1 = 0 then (f_X7_no N q13.2.1 q13.2.2.1 q13.2.2.2 1).bind fun q24 => some (q24.1, q24.2.1, q24.2.2.1, q24.2.2.2) else (f_X6_runs N q13.2.2.1 a1).bind fun q15 => if q15.1 = 0 then (f_X7_no N q13.2.1 q15.2 q13.2.2.2 2).bind fun q23 => some (q23.1, q23.2.1, q23.2.2.1, q23.2.2.2) else if mIn a1 16 then if mIn ((2 * a1) + (q15.2 11 a1.toNatClampNeg)) 32 then some ((mUp (mUp (mUp (mUp q15.2 6 ((2 * a1) + (q15.2 11 a1.toNatClampNeg)).toNatClampNeg ((q15.2 6 ((2 * a1) + (q15.2 11 a1.toNatClampNeg)).toNatClampNeg) + (q15.2 8 a1.toNatClampNeg))) 11 a1.toNatClampNeg (1 - ((mUp q15.2 6 ((2 * a1) + (q15.2 11 a1.toNatClampNeg)).toNatClampNeg ((q15.2 6 ((2 * a1) + (q15.2 11 a1.toNatClampNeg)).toNatClampNeg) + (q15.2 8 a1.toNatClampNeg))) 11 a1.toNatClampNeg))) 13 a1.toNatClampNeg 0) 12 a1.toNatClampNeg (((mUp (mUp (mUp q15.2 6 ((2 * a1) + (q15.2 11 a1.toNatClampNeg)).toNatClampNeg ((q15.2 6 ((2 * a1) + (q15.2 11 a1.toNatClampNeg)).toNatClampNeg) + (q15.2 8 a1.toNatClampNeg))) 11 a1.toNatClampNeg (1 - ((mUp q15.2 6 ((2 * a1) + (q15.2 11 a1.toNatClampNeg)).toNatClampNeg ((q15.2 6 ((2 * a1) + (q15.2 11 a1.toNatClampNeg)).toNatClampNeg) + (q15.2 8 a1.toNatClampNeg))) 11 a1.toNatClampNeg))) 13 a1.toNatClampNeg 0) 12 a1.toNatClampNeg) + 1)) 12 a1.toNatClampNeg, q13.2.1, (mUp (mUp (mUp (mUp q15.2 6 ((2 * a1) + (q15.2 11 a1.toNatClampNeg)).toNatClampNeg ((q15.2 6 ((2 * a1) + (q15.2 11 a1.toNatClampNeg)).toNatClampNeg) + (q15.2 8 a1.toNatClampNeg))) 11 a1.toNatClampNeg (1 - ((mUp q15.2 6 ((2 * a1) + (q15.2 11 a1.toNatClampNeg)).toNatClampNeg ((q15.2 6 ((2 * a1) + (q15.2 11 a1.toNatClampNeg)).toNatClampNeg) + (q15.2 8 a1.toNatClampNeg))) 11 a1.toNatClampNeg))) 13 a1.toNatClampNeg 0) 12 a1.toNatClampNeg (((mUp (mUp (mUp q15.2 6 ((2 * a1) + (q15.2 11 a1.toNatClampNeg)).toNatClampNeg ((q15.2 6 ((2 * a1) + (q15.2 11 a1.toNatClampNeg)).toNatClampNeg) + (q15.2 8 a1.toNatClampNeg))) 11 a1.toNatClampNeg (1 - ((mUp q15.2 6 ((2 * a1) + (q15.2 11 a1.toNatClampNeg)).toNatClampNeg ((q15.2 6 ((2 * a1) + (q15.2 11 a1.toNatClampNeg)).toNatClampNeg) + (q15.2 8 a1.toNatClampNeg))) 11 a1.toNatClampNeg))) 13 a1.toNatClampNeg 0) 12 a1.toNatClampNeg) + 1)), q13.2.2.2) else none else none
set_option maxHeartbeats 4000000 in
set_option maxRecDepth 100000 in
theorem c_X7_press {l : Launch} {D : va_G} {y : Nat → ClassId} {ad : Nat → Nat} {N : Nat} {th : Int32} {ρ α : mSt} {a1 : Int32} {q : Int32 × Int32 × mSt × mSt} (h : f_X7_press N th ρ α a1 = some q) : mC l yX7_press wsX7_press { frames := 2, cells := 0, slots := 0, locals := 43 } D y 43 ad mN (mM y ad th ρ α) [.ref (ad 42), .int a1] (some (.int q.1)) (mM y ad q.2.1 q.2.2.1 q.2.2.2) 0 0 := by
  refine m_start (cc := cX7_press) (maxL := 2) (ret := (some .int)) (by decide) rfl (Nat.le_of_ble_eq_true rfl) (fun p e s m args below meth c ls hB _ V Z hl => ?_)
  obtain ⟨hx, hb, hml, hown, hts, hr, hlk⟩ := id hB
  have hl : lv_has ls 2 [(0, .ref (ad 42)), (1, .int a1)] := hl
  rw [f_X7_press] at h
  refine lv_aload_n hx hb dX7_press_0 rfl (lv_at hl 0 rfl) ?_
  refine lv_iconst (v := 0) hx hb dX7_press_1 (by decide) ?_
  refine pM_th hx hb hts hown (fun _ h => List.mem_cons_of_mem _ (List.mem_append_left _ (List.mem_append_right _ h))) V (hts _ (List.mem_of_getElem? (i := 1) rfl)) dX7_press_2 (fun H locs V => ?_)
  refine lv_aload_n hx hb dX7_press_5 rfl (lv_at hl 0 rfl) ?_
  refine lv_iload_n hx hb dX7_press_6 rfl (lv_at hl 1 rfl) ?_
  obtain ⟨q13, hq13, h⟩ := bd_s h
  refine kMM (As := [.int a1]) (rest := []) ⟨hx, hb, hml, hown, hts⟩ Z V (c_X7_isGame (l := l) (D := D) (y := y) (ad := ad) hq13) (cwV 1 hts gX7_press_X7_isGame rfl rfl rfl (by decide +kernel) ⟨Nat.le_of_ble_eq_true rfl, Nat.le_of_ble_eq_true rfl⟩) (by omega) (mM_m y ad _ _ _) rfl rfl hl.1 rfl (Nat.le_of_ble_eq_true rfl) ⟨Nat.zero_le _, Nat.zero_le _⟩ rfl dX7_press_7 (fun H locs V => ?_)
  refine lv_if_ne (tgt := 19) hx hb dX7_press_10 (by decide) (fun hc14 => ?_) (fun hc14 => ?_)
  · replace h := ite_f hc14 h
    refine lv_aload_n hx hb dX7_press_19 rfl (lv_at hl 0 rfl) ?_
    refine rM_s hx hb hts hown (fun _ h => List.mem_cons_of_mem _ (List.mem_append_left _ (List.mem_append_right _ h))) V (hts _ (List.mem_of_getElem? (i := 2) rfl)) dX7_press_20 ?_
    refine lv_iload_n hx hb dX7_press_23 rfl (lv_at hl 1 rfl) ?_
    obtain ⟨q15, hq15, h⟩ := bd_s h
    refine kMR (As := [.int a1]) (rest := []) ⟨hx, hb, hml, hown, hts⟩ V (c_X6_runs (l := l) (D := D) (y := y) (ad := ad) hq15) (cwV 1 hts gX7_press_X6_runs rfl rfl rfl (by decide +kernel) ⟨Nat.le_of_ble_eq_true rfl, Nat.le_of_ble_eq_true rfl⟩) (by omega) ((mM_0 y ad _ _ _ (by omega)).trans (mR_T y ad _)) rfl rfl hl.1 rfl (Nat.le_of_ble_eq_true rfl) ⟨Nat.zero_le _, Nat.zero_le _⟩ rfl dX7_press_24 (fun H locs V => ?_)
    refine lv_if_ne (tgt := 36) hx hb dX7_press_27 (by decide) (fun hc16 => ?_) (fun hc16 => ?_)
    · replace h := ite_f hc16 h
      refine lv_aload_n hx hb dX7_press_36 rfl (lv_at hl 0 rfl) ?_
      refine rM_s hx hb hts hown (fun _ h => List.mem_cons_of_mem _ (List.mem_append_left _ (List.mem_append_right _ h))) V (hts _ (List.mem_of_getElem? (i := 2) rfl)) dX7_press_37 ?_
      refine gM_T hx hb hts hown (fun _ h => List.mem_cons_of_mem _ (List.mem_append_right _ h)) V 9 (by decide) (mN_use (q := (123, "clock", "[I")) Z 17 rfl) (v := .ref (ad 7)) rfl dX7_press_40 ?_
      refine lv_iconst (v := 2) hx hb dX7_press_43 (by decide) ?_
      refine lv_iload_n hx hb dX7_press_44 rfl (lv_at hl 1 rfl) ?_
      refine lv_imul hx hb dX7_press_45 ?_
      refine lv_aload_n hx hb dX7_press_46 rfl (lv_at hl 0 rfl) ?_
      refine rM_s hx hb hts hown (fun _ h => List.mem_cons_of_mem _ (List.mem_append_left _ (List.mem_append_right _ h))) V (hts _ (List.mem_of_getElem? (i := 2) rfl)) dX7_press_47 ?_
      refine gM_T hx hb hts hown (fun _ h => List.mem_cons_of_mem _ (List.mem_append_right _ h)) V 14 (by decide) (mN_use (q := (138, "turn", "[I")) Z 21 rfl) (v := .ref (ad 12)) rfl dX7_press_50 ?_
      refine lv_iload_n hx hb dX7_press_53 rfl (lv_at hl 1 rfl) ?_
      obtain ⟨hi17, h⟩ := gd_s h
      refine aM_I hx hb V 11 12 16 (by decide) rfl rfl hi17 dX7_press_54 ?_
      refine lv_iadd hx hb dX7_press_55 ?_
      refine lv_dup2_11 hx hb dX7_press_56 rfl rfl ?_
      obtain ⟨hi18, h⟩ := gd_s h
      refine aM_I hx hb V 6 7 32 (by decide) rfl rfl hi18 dX7_press_57 ?_
      refine lv_aload_n hx hb dX7_press_58 rfl (lv_at hl 0 rfl) ?_
      refine rM_s hx hb hts hown (fun _ h => List.mem_cons_of_mem _ (List.mem_append_left _ (List.mem_append_right _ h))) V (hts _ (List.mem_of_getElem? (i := 2) rfl)) dX7_press_59 ?_
      refine gM_T hx hb hts hown (fun _ h => List.mem_cons_of_mem _ (List.mem_append_right _ h)) V 11 (by decide) (mN_use (q := (126, "increment", "[I")) Z 18 rfl) (v := .ref (ad 9)) rfl dX7_press_62 ?_
      refine lv_iload_n hx hb dX7_press_65 rfl (lv_at hl 1 rfl) ?_
      refine aM_I hx hb V 8 9 16 (by decide) rfl rfl hi17 dX7_press_66 ?_
      refine lv_iadd hx hb dX7_press_67 ?_
      refine bM_I hx hb V 6 7 32 (by decide) rfl rfl hi18 dX7_press_68 (fun H locs V => ?_)
      refine lv_aload_n hx hb dX7_press_69 rfl (lv_at hl 0 rfl) ?_
      refine rM_s hx hb hts hown (fun _ h => List.mem_cons_of_mem _ (List.mem_append_left _ (List.mem_append_right _ h))) V (hts _ (List.mem_of_getElem? (i := 2) rfl)) dX7_press_70 ?_
      refine gM_T hx hb hts hown (fun _ h => List.mem_cons_of_mem _ (List.mem_append_right _ h)) V 14 (by decide) (mN_use (q := (138, "turn", "[I")) Z 21 rfl) (v := .ref (ad 12)) rfl dX7_press_73 ?_
      refine lv_iload_n hx hb dX7_press_76 rfl (lv_at hl 1 rfl) ?_
      refine lv_iconst (v := 1) hx hb dX7_press_77 (by decide) ?_
      refine lv_aload_n hx hb dX7_press_78 rfl (lv_at hl 0 rfl) ?_
      refine rM_s hx hb hts hown (fun _ h => List.mem_cons_of_mem _ (List.mem_append_left _ (List.mem_append_right _ h))) V (hts _ (List.mem_of_getElem? (i := 2) rfl)) dX7_press_79 ?_
      refine gM_T hx hb hts hown (fun _ h => List.mem_cons_of_mem _ (List.mem_append_right _ h)) V 14 (by decide) (mN_use (q := (138, "turn", "[I")) Z 21 rfl) (v := .ref (ad 12)) rfl dX7_press_82 ?_
      refine lv_iload_n hx hb dX7_press_85 rfl (lv_at hl 1 rfl) ?_
      refine aM_I hx hb V 11 12 16 (by decide) rfl rfl hi17 dX7_press_86 ?_
      refine lv_isub hx hb dX7_press_87 ?_
      refine bM_I hx hb V 11 12 16 (by decide) rfl rfl hi17 dX7_press_88 (fun H locs V => ?_)
      refine lv_aload_n hx hb dX7_press_89 rfl (lv_at hl 0 rfl) ?_
      refine rM_s hx hb hts hown (fun _ h => List.mem_cons_of_mem _ (List.mem_append_left _ (List.mem_append_right _ h))) V (hts _ (List.mem_of_getElem? (i := 2) rfl)) dX7_press_90 ?_
      refine gM_T hx hb hts hown (fun _ h => List.mem_cons_of_mem _ (List.mem_append_right _ h)) V 16 (by decide) (mN_use (q := (141, "since", "[I")) Z 22 rfl) (v := .ref (ad 14)) rfl dX7_press_93 ?_
      refine lv_iload_n hx hb dX7_press_96 rfl (lv_at hl 1 rfl) ?_
      refine lv_iconst (v := 0) hx hb dX7_press_97 (by decide) ?_
      refine bM_I hx hb V 13 14 16 (by decide) rfl rfl hi17 dX7_press_98 (fun H locs V => ?_)
      refine lv_aload_n hx hb dX7_press_99 rfl (lv_at hl 0 rfl) ?_
      refine rM_s hx hb hts hown (fun _ h => List.mem_cons_of_mem _ (List.mem_append_left _ (List.mem_append_right _ h))) V (hts _ (List.mem_of_getElem? (i := 2) rfl)) dX7_press_100 ?_
      refine gM_T hx hb hts hown (fun _ h => List.mem_cons_of_mem _ (List.mem_append_right _ h)) V 15 (by decide) (mN_use (q := (144, "moves", "[I")) Z 23 rfl) (v := .ref (ad 13)) rfl dX7_press_103 ?_
      refine lv_iload_n hx hb dX7_press_106 rfl (lv_at hl 1 rfl) ?_
      refine lv_dup2_11 hx hb dX7_press_107 rfl rfl ?_
      refine aM_I hx hb V 12 13 16 (by decide) rfl rfl hi17 dX7_press_108 ?_
      refine lv_iconst (v := 1) hx hb dX7_press_109 (by decide) ?_
      refine lv_iadd hx hb dX7_press_110 ?_
      refine bM_I hx hb V 12 13 16 (by decide) rfl rfl hi17 dX7_press_111 (fun H locs V => ?_)
      refine lv_aload_n hx hb dX7_press_112 rfl (lv_at hl 0 rfl) ?_
      refine rM_s hx hb hts hown (fun _ h => List.mem_cons_of_mem _ (List.mem_append_left _ (List.mem_append_right _ h))) V (hts _ (List.mem_of_getElem? (i := 2) rfl)) dX7_press_113 ?_
      refine gM_T hx hb hts hown (fun _ h => List.mem_cons_of_mem _ (List.mem_append_right _ h)) V 15 (by decide) (mN_use (q := (144, "moves", "[I")) Z 23 rfl) (v := .ref (ad 13)) rfl dX7_press_116 ?_
      refine lv_iload_n hx hb dX7_press_119 rfl (lv_at hl 1 rfl) ?_
      refine aM_I hx hb V 12 13 16 (by decide) rfl rfl hi17 dX7_press_120 ?_
      obtain rfl := Option.some.inj h
      exact m_iret hx hb hr hlk V (Nat.zero_le _) (Nat.zero_le _) dX7_press_121
    · replace h := ite_t hc16 h
      refine lv_aload_n hx hb dX7_press_30 rfl (lv_at hl 0 rfl) ?_
      refine lv_iconst (v := 2) hx hb dX7_press_31 (by decide) ?_
      obtain ⟨q23, hq23, h⟩ := bd_s h
      refine kMM (As := [.int 2]) (rest := []) ⟨hx, hb, hml, hown, hts⟩ Z V (c_X7_no (l := l) (D := D) (y := y) (ad := ad) hq23) (cwV 1 hts gX7_press_X7_no rfl rfl rfl (by decide +kernel) ⟨Nat.le_of_ble_eq_true rfl, Nat.le_of_ble_eq_true rfl⟩) (by omega) (mM_m y ad _ _ _) rfl rfl hl.1 rfl (Nat.le_of_ble_eq_true rfl) ⟨Nat.zero_le _, Nat.zero_le _⟩ rfl dX7_press_32 (fun H locs V => ?_)
      obtain rfl := Option.some.inj h
      exact m_iret hx hb hr hlk V (Nat.zero_le _) (Nat.zero_le _) dX7_press_35
  · replace h := ite_t hc14 h
    refine lv_aload_n hx hb dX7_press_13 rfl (lv_at hl 0 rfl) ?_
    refine lv_iconst (v := 1) hx hb dX7_press_14 (by decide) ?_
    obtain ⟨q24, hq24, h⟩ := bd_s h
    refine kMM (As := [.int 1]) (rest := []) ⟨hx, hb, hml, hown, hts⟩ Z V (c_X7_no (l := l) (D := D) (y := y) (ad := ad) hq24) (cwV 1 hts gX7_press_X7_no rfl rfl rfl (by decide +kernel) ⟨Nat.le_of_ble_eq_true rfl, Nat.le_of_ble_eq_true rfl⟩) (by omega) (mM_m y ad _ _ _) rfl rfl hl.1 rfl (Nat.le_of_ble_eq_true rfl) ⟨Nat.zero_le _, Nat.zero_le _⟩ rfl dX7_press_15 (fun H locs V => ?_)
    obtain rfl := Option.some.inj h
    exact m_iret hx hb hr hlk V (Nat.zero_le _) (Nat.zero_le _) dX7_press_18
-- X7_put
def f_X7_put (N : Nat) (th : Int32) (ρ α : mSt) (a1 : Int32) (a2 : Int32) (a3 : Int32) : Option (Int32 × Int32 × mSt × mSt) := (f_X7_isGame N 0 ρ α a1).bind fun q21 => if q21.1 = 0 then (f_X7_no N q21.2.1 q21.2.2.1 q21.2.2.2 1).bind fun q40 => some (q40.1, q40.2.1, q40.2.2.1, q40.2.2.2) else (f_X7_isIn N q21.2.1 q21.2.2.1 q21.2.2.2 a2 0 1).bind fun q23 => if q23.1 = 0 then (f_X7_no N q23.2.1 q23.2.2.1 q23.2.2.2 2).bind fun q25 => some (q25.1, q25.2.1, q25.2.2.1, q25.2.2.2) else (f_X7_isIn N q23.2.1 q23.2.2.1 q23.2.2.2 a3 1 3600).bind fun q26 => if q26.1 = 0 then (f_X7_no N q26.2.1 q26.2.2.1 q26.2.2.2 2).bind fun q39 => some (q39.1, q39.2.1, q39.2.2.1, q39.2.2.2) else (f_X6_runs N q26.2.2.1 a1).bind fun q28 => if q28.1 = 0 then (f_X7_no N q26.2.1 q28.2 q26.2.2.2 3).bind fun q30 => some (q30.1, q30.2.1, q30.2.2.1, q30.2.2.2) else if mIn ((2 * a1) + a2) 32 then if mIn (q28.2 5 ((2 * a1) + a2).toNatClampNeg) 8 then if a3 ≤ (q28.2 1 (q28.2 5 ((2 * a1) + a2).toNatClampNeg).toNatClampNeg) then some ((mUp (mUp q28.2 1 (q28.2 5 ((2 * a1) + a2).toNatClampNeg).toNatClampNeg ((q28.2 1 (q28.2 5 ((2 * a1) + a2).toNatClampNeg).toNatClampNeg) - a3)) 6 ((2 * a1) + a2).toNatClampNeg (((mUp q28.2 1 (q28.2 5 ((2 * a1) + a2).toNatClampNeg).toNatClampNeg ((q28.2 1 (q28.2 5 ((2 * a1) + a2).toNatClampNeg).toNatClampNeg) - a3)) 6 ((2 * a1) + a2).toNatClampNeg) + a3)) 6 ((2 * a1) + a2).toNatClampNeg, q26.2.1, (mUp (mUp q28.2 1 (q28.2 5 ((2 * a1) + a2).toNatClampNeg).toNatClampNeg ((q28.2 1 (q28.2 5 ((2 * a1) + a2).toNatClampNeg).toNatClampNeg) - a3)) 6 ((2 * a1) + a2).toNatClampNeg (((mUp q28.2 1 (q28.2 5 ((2 * a1) + a2).toNatClampNeg).toNatClampNeg ((q28.2 1 (q28.2 5 ((2 * a1) + a2).toNatClampNeg).toNatClampNeg) - a3)) 6 ((2 * a1) + a2).toNatClampNeg) + a3)), q26.2.2.2) else (f_X7_no N q26.2.1 q28.2 q26.2.2.2 3).bind fun q38 => some (q38.1, q38.2.1, q38.2.2.1, q38.2.2.2) else none else none
set_option maxHeartbeats 4000000 in
set_option maxRecDepth 100000 in
theorem c_X7_put {l : Launch} {D : va_G} {y : Nat → ClassId} {ad : Nat → Nat} {N : Nat} {th : Int32} {ρ α : mSt} {a1 : Int32} {a2 : Int32} {a3 : Int32} {q : Int32 × Int32 × mSt × mSt} (h : f_X7_put N th ρ α a1 a2 a3 = some q) : mC l yX7_put wsX7_put { frames := 2, cells := 0, slots := 0, locals := 43 } D y 43 ad mN (mM y ad th ρ α) [.ref (ad 42), .int a1, .int a2, .int a3] (some (.int q.1)) (mM y ad q.2.1 q.2.2.1 q.2.2.2) 0 0 := by
  refine m_start (cc := cX7_put) (maxL := 5) (ret := (some .int)) (by decide) rfl (Nat.le_of_ble_eq_true rfl) (fun p e s m args below meth c ls hB _ V Z hl => ?_)
  obtain ⟨hx, hb, hml, hown, hts, hr, hlk⟩ := id hB
  have hl : lv_has ls 5 [(0, .ref (ad 42)), (1, .int a1), (2, .int a2), (3, .int a3)] := hl
  rw [f_X7_put] at h
  refine lv_aload_n hx hb dX7_put_0 rfl (lv_at hl 0 rfl) ?_
  refine lv_iconst (v := 0) hx hb dX7_put_1 (by decide) ?_
  refine pM_th hx hb hts hown (fun _ h => List.mem_cons_of_mem _ (List.mem_append_left _ (List.mem_append_right _ h))) V (hts _ (List.mem_of_getElem? (i := 1) rfl)) dX7_put_2 (fun H locs V => ?_)
  refine lv_aload_n hx hb dX7_put_5 rfl (lv_at hl 0 rfl) ?_
  refine lv_iload_n hx hb dX7_put_6 rfl (lv_at hl 1 rfl) ?_
  obtain ⟨q21, hq21, h⟩ := bd_s h
  refine kMM (As := [.int a1]) (rest := []) ⟨hx, hb, hml, hown, hts⟩ Z V (c_X7_isGame (l := l) (D := D) (y := y) (ad := ad) hq21) (cwV 1 hts gX7_put_X7_isGame rfl rfl rfl (by decide +kernel) ⟨Nat.le_of_ble_eq_true rfl, Nat.le_of_ble_eq_true rfl⟩) (by omega) (mM_m y ad _ _ _) rfl rfl hl.1 rfl (Nat.le_of_ble_eq_true rfl) ⟨Nat.zero_le _, Nat.zero_le _⟩ rfl dX7_put_7 (fun H locs V => ?_)
  refine lv_if_ne (tgt := 19) hx hb dX7_put_10 (by decide) (fun hc22 => ?_) (fun hc22 => ?_)
  · replace h := ite_f hc22 h
    refine lv_iload_n hx hb dX7_put_19 rfl (lv_at hl 2 rfl) ?_
    refine lv_iconst (v := 0) hx hb dX7_put_20 (by decide) ?_
    refine lv_iconst (v := 1) hx hb dX7_put_21 (by decide) ?_
    obtain ⟨q23, hq23, h⟩ := bd_s h
    refine kMMs (As := [.int a2, .int 0, .int 1]) (rest := []) ⟨hx, hb, hml, hown, hts⟩ Z V (c_X7_isIn (l := l) (D := D) (y := y) (ad := ad) hq23) (va_cwS 3 hts gX7_put_X7_isIn rfl rfl rfl (by decide +kernel) ⟨Nat.le_of_ble_eq_true rfl, Nat.le_of_ble_eq_true rfl⟩) rfl hl.1 rfl (Nat.le_of_ble_eq_true rfl) ⟨Nat.zero_le _, Nat.zero_le _⟩ rfl dX7_put_22 (fun H locs V => ?_)
    refine lv_if_eq (tgt := 39) hx hb dX7_put_25 (by decide) (fun hc24 => ?_) (fun hc24 => ?_)
    · replace h := ite_t hc24 h
      refine lv_aload_n hx hb dX7_put_39 rfl (lv_at hl 0 rfl) ?_
      refine lv_iconst (v := 2) hx hb dX7_put_40 (by decide) ?_
      obtain ⟨q25, hq25, h⟩ := bd_s h
      refine kMM (As := [.int 2]) (rest := []) ⟨hx, hb, hml, hown, hts⟩ Z V (c_X7_no (l := l) (D := D) (y := y) (ad := ad) hq25) (cwV 1 hts gX7_put_X7_no rfl rfl rfl (by decide +kernel) ⟨Nat.le_of_ble_eq_true rfl, Nat.le_of_ble_eq_true rfl⟩) (by omega) (mM_m y ad _ _ _) rfl rfl hl.1 rfl (Nat.le_of_ble_eq_true rfl) ⟨Nat.zero_le _, Nat.zero_le _⟩ rfl dX7_put_41 (fun H locs V => ?_)
      obtain rfl := Option.some.inj h
      exact m_iret hx hb hr hlk V (Nat.zero_le _) (Nat.zero_le _) dX7_put_44
    · replace h := ite_f hc24 h
      refine lv_iload_n hx hb dX7_put_28 rfl (lv_at hl 3 rfl) ?_
      refine lv_iconst (v := 1) hx hb dX7_put_29 (by decide) ?_
      refine lv_sipush (v := 3600) hx hb dX7_put_30 (by decide) ?_
      obtain ⟨q26, hq26, h⟩ := bd_s h
      refine kMMs (As := [.int a3, .int 1, .int 3600]) (rest := []) ⟨hx, hb, hml, hown, hts⟩ Z V (c_X7_isIn (l := l) (D := D) (y := y) (ad := ad) hq26) (va_cwS 3 hts gX7_put_X7_isIn rfl rfl rfl (by decide +kernel) ⟨Nat.le_of_ble_eq_true rfl, Nat.le_of_ble_eq_true rfl⟩) rfl hl.1 rfl (Nat.le_of_ble_eq_true rfl) ⟨Nat.zero_le _, Nat.zero_le _⟩ rfl dX7_put_33 (fun H locs V => ?_)
      refine lv_if_ne (tgt := 45) hx hb dX7_put_36 (by decide) (fun hc27 => ?_) (fun hc27 => ?_)
      · replace h := ite_f hc27 h
        refine lv_iconst (v := 2) hx hb dX7_put_45 (by decide) ?_
        refine lv_iload_n hx hb dX7_put_46 rfl (lv_at hl 1 rfl) ?_
        refine lv_imul hx hb dX7_put_47 ?_
        refine lv_iload_n hx hb dX7_put_48 rfl (lv_at hl 2 rfl) ?_
        refine lv_iadd hx hb dX7_put_49 ?_
        refine lv_istore (lv' := [(4, .int ((2 * a1) + a2)), (0, .ref (ad 42)), (1, .int a1), (2, .int a2), (3, .int a3)]) hx hb dX7_put_50 hl (by decide) rfl (fun ls hl => ?_)
        refine lv_aload_n hx hb dX7_put_52 rfl (lv_at hl 1 rfl) ?_
        refine rM_s hx hb hts hown (fun _ h => List.mem_cons_of_mem _ (List.mem_append_left _ (List.mem_append_right _ h))) V (hts _ (List.mem_of_getElem? (i := 2) rfl)) dX7_put_53 ?_
        refine lv_iload_n hx hb dX7_put_56 rfl (lv_at hl 2 rfl) ?_
        obtain ⟨q28, hq28, h⟩ := bd_s h
        refine kMR (As := [.int a1]) (rest := []) ⟨hx, hb, hml, hown, hts⟩ V (c_X6_runs (l := l) (D := D) (y := y) (ad := ad) hq28) (cwV 1 hts gX7_put_X6_runs rfl rfl rfl (by decide +kernel) ⟨Nat.le_of_ble_eq_true rfl, Nat.le_of_ble_eq_true rfl⟩) (by omega) ((mM_0 y ad _ _ _ (by omega)).trans (mR_T y ad _)) rfl rfl hl.1 rfl (Nat.le_of_ble_eq_true rfl) ⟨Nat.zero_le _, Nat.zero_le _⟩ rfl dX7_put_57 (fun H locs V => ?_)
        refine lv_if_eq (tgt := 85) hx hb dX7_put_60 (by decide) (fun hc29 => ?_) (fun hc29 => ?_)
        · replace h := ite_t hc29 h
          refine lv_aload_n hx hb dX7_put_85 rfl (lv_at hl 1 rfl) ?_
          refine lv_iconst (v := 3) hx hb dX7_put_86 (by decide) ?_
          obtain ⟨q30, hq30, h⟩ := bd_s h
          refine kMM (As := [.int 3]) (rest := []) ⟨hx, hb, hml, hown, hts⟩ Z V (c_X7_no (l := l) (D := D) (y := y) (ad := ad) hq30) (cwV 1 hts gX7_put_X7_no rfl rfl rfl (by decide +kernel) ⟨Nat.le_of_ble_eq_true rfl, Nat.le_of_ble_eq_true rfl⟩) (by omega) (mM_m y ad _ _ _) rfl rfl hl.1 rfl (Nat.le_of_ble_eq_true rfl) ⟨Nat.zero_le _, Nat.zero_le _⟩ rfl dX7_put_87 (fun H locs V => ?_)
          obtain rfl := Option.some.inj h
          exact m_iret hx hb hr hlk V (Nat.zero_le _) (Nat.zero_le _) dX7_put_90
        · replace h := ite_f hc29 h
          refine lv_aload_n hx hb dX7_put_63 rfl (lv_at hl 1 rfl) ?_
          refine rM_s hx hb hts hown (fun _ h => List.mem_cons_of_mem _ (List.mem_append_left _ (List.mem_append_right _ h))) V (hts _ (List.mem_of_getElem? (i := 2) rfl)) dX7_put_64 ?_
          refine gM_T hx hb hts hown (fun _ h => List.mem_cons_of_mem _ (List.mem_append_right _ h)) V 3 (by decide) (mN_use (q := (61, "pocket", "[I")) Z 8 rfl) (v := .ref (ad 2)) rfl dX7_put_67 ?_
          refine lv_aload_n hx hb dX7_put_70 rfl (lv_at hl 1 rfl) ?_
          refine rM_s hx hb hts hown (fun _ h => List.mem_cons_of_mem _ (List.mem_append_left _ (List.mem_append_right _ h))) V (hts _ (List.mem_of_getElem? (i := 2) rfl)) dX7_put_71 ?_
          refine gM_T hx hb hts hown (fun _ h => List.mem_cons_of_mem _ (List.mem_append_right _ h)) V 8 (by decide) (mN_use (q := (58, "player", "[I")) Z 7 rfl) (v := .ref (ad 6)) rfl dX7_put_74 ?_
          refine lv_iload hx hb dX7_put_77 (lv_at hl 0 rfl) ?_
          obtain ⟨hi31, h⟩ := gd_s h
          refine aM_I hx hb V 5 6 32 (by decide) rfl rfl hi31 dX7_put_79 ?_
          obtain ⟨hi32, h⟩ := gd_s h
          refine aM_I hx hb V 1 2 8 (by decide) rfl rfl hi32 dX7_put_80 ?_
          refine lv_iload_n hx hb dX7_put_81 rfl (lv_at hl 4 rfl) ?_
          refine lv_icmp_ge (tgt := 91) hx hb dX7_put_82 (by decide) (fun hc33 => ?_) (fun hc33 => ?_)
          · replace h := ite_t hc33 h
            refine lv_aload_n hx hb dX7_put_91 rfl (lv_at hl 1 rfl) ?_
            refine rM_s hx hb hts hown (fun _ h => List.mem_cons_of_mem _ (List.mem_append_left _ (List.mem_append_right _ h))) V (hts _ (List.mem_of_getElem? (i := 2) rfl)) dX7_put_92 ?_
            refine gM_T hx hb hts hown (fun _ h => List.mem_cons_of_mem _ (List.mem_append_right _ h)) V 3 (by decide) (mN_use (q := (61, "pocket", "[I")) Z 8 rfl) (v := .ref (ad 2)) rfl dX7_put_95 ?_
            refine lv_aload_n hx hb dX7_put_98 rfl (lv_at hl 1 rfl) ?_
            refine rM_s hx hb hts hown (fun _ h => List.mem_cons_of_mem _ (List.mem_append_left _ (List.mem_append_right _ h))) V (hts _ (List.mem_of_getElem? (i := 2) rfl)) dX7_put_99 ?_
            refine gM_T hx hb hts hown (fun _ h => List.mem_cons_of_mem _ (List.mem_append_right _ h)) V 8 (by decide) (mN_use (q := (58, "player", "[I")) Z 7 rfl) (v := .ref (ad 6)) rfl dX7_put_102 ?_
            refine lv_iload hx hb dX7_put_105 (lv_at hl 0 rfl) ?_
            refine aM_I hx hb V 5 6 32 (by decide) rfl rfl hi31 dX7_put_107 ?_
            refine lv_dup2_11 hx hb dX7_put_108 rfl rfl ?_
            refine aM_I hx hb V 1 2 8 (by decide) rfl rfl hi32 dX7_put_109 ?_
            refine lv_iload_n hx hb dX7_put_110 rfl (lv_at hl 4 rfl) ?_
            refine lv_isub hx hb dX7_put_111 ?_
            refine bM_I hx hb V 1 2 8 (by decide) rfl rfl hi32 dX7_put_112 (fun H locs V => ?_)
            refine lv_aload_n hx hb dX7_put_113 rfl (lv_at hl 1 rfl) ?_
            refine rM_s hx hb hts hown (fun _ h => List.mem_cons_of_mem _ (List.mem_append_left _ (List.mem_append_right _ h))) V (hts _ (List.mem_of_getElem? (i := 2) rfl)) dX7_put_114 ?_
            refine gM_T hx hb hts hown (fun _ h => List.mem_cons_of_mem _ (List.mem_append_right _ h)) V 9 (by decide) (mN_use (q := (123, "clock", "[I")) Z 17 rfl) (v := .ref (ad 7)) rfl dX7_put_117 ?_
            refine lv_iload hx hb dX7_put_120 (lv_at hl 0 rfl) ?_
            refine lv_dup2_11 hx hb dX7_put_122 rfl rfl ?_
            refine aM_I hx hb V 6 7 32 (by decide) rfl rfl hi31 dX7_put_123 ?_
            refine lv_iload_n hx hb dX7_put_124 rfl (lv_at hl 4 rfl) ?_
            refine lv_iadd hx hb dX7_put_125 ?_
            refine bM_I hx hb V 6 7 32 (by decide) rfl rfl hi31 dX7_put_126 (fun H locs V => ?_)
            refine lv_aload_n hx hb dX7_put_127 rfl (lv_at hl 1 rfl) ?_
            refine rM_s hx hb hts hown (fun _ h => List.mem_cons_of_mem _ (List.mem_append_left _ (List.mem_append_right _ h))) V (hts _ (List.mem_of_getElem? (i := 2) rfl)) dX7_put_128 ?_
            refine gM_T hx hb hts hown (fun _ h => List.mem_cons_of_mem _ (List.mem_append_right _ h)) V 9 (by decide) (mN_use (q := (123, "clock", "[I")) Z 17 rfl) (v := .ref (ad 7)) rfl dX7_put_131 ?_
            refine lv_iload hx hb dX7_put_134 (lv_at hl 0 rfl) ?_
            refine aM_I hx hb V 6 7 32 (by decide) rfl rfl hi31 dX7_put_136 ?_
            obtain rfl := Option.some.inj h
            exact m_iret hx hb hr hlk V (Nat.zero_le _) (Nat.zero_le _) dX7_put_137
          · replace h := ite_f hc33 h
            refine lv_aload_n hx hb dX7_put_85 rfl (lv_at hl 1 rfl) ?_
            refine lv_iconst (v := 3) hx hb dX7_put_86 (by decide) ?_
            obtain ⟨q38, hq38, h⟩ := bd_s h
            refine kMM (As := [.int 3]) (rest := []) ⟨hx, hb, hml, hown, hts⟩ Z V (c_X7_no (l := l) (D := D) (y := y) (ad := ad) hq38) (cwV 1 hts gX7_put_X7_no rfl rfl rfl (by decide +kernel) ⟨Nat.le_of_ble_eq_true rfl, Nat.le_of_ble_eq_true rfl⟩) (by omega) (mM_m y ad _ _ _) rfl rfl hl.1 rfl (Nat.le_of_ble_eq_true rfl) ⟨Nat.zero_le _, Nat.zero_le _⟩ rfl dX7_put_87 (fun H locs V => ?_)
            obtain rfl := Option.some.inj h
            exact m_iret hx hb hr hlk V (Nat.zero_le _) (Nat.zero_le _) dX7_put_90
      · replace h := ite_t hc27 h
        refine lv_aload_n hx hb dX7_put_39 rfl (lv_at hl 0 rfl) ?_
        refine lv_iconst (v := 2) hx hb dX7_put_40 (by decide) ?_
        obtain ⟨q39, hq39, h⟩ := bd_s h
        refine kMM (As := [.int 2]) (rest := []) ⟨hx, hb, hml, hown, hts⟩ Z V (c_X7_no (l := l) (D := D) (y := y) (ad := ad) hq39) (cwV 1 hts gX7_put_X7_no rfl rfl rfl (by decide +kernel) ⟨Nat.le_of_ble_eq_true rfl, Nat.le_of_ble_eq_true rfl⟩) (by omega) (mM_m y ad _ _ _) rfl rfl hl.1 rfl (Nat.le_of_ble_eq_true rfl) ⟨Nat.zero_le _, Nat.zero_le _⟩ rfl dX7_put_41 (fun H locs V => ?_)
        obtain rfl := Option.some.inj h
        exact m_iret hx hb hr hlk V (Nat.zero_le _) (Nat.zero_le _) dX7_put_44
  · replace h := ite_t hc22 h
    refine lv_aload_n hx hb dX7_put_13 rfl (lv_at hl 0 rfl) ?_
    refine lv_iconst (v := 1) hx hb dX7_put_14 (by decide) ?_
    obtain ⟨q40, hq40, h⟩ := bd_s h
    refine kMM (As := [.int 1]) (rest := []) ⟨hx, hb, hml, hown, hts⟩ Z V (c_X7_no (l := l) (D := D) (y := y) (ad := ad) hq40) (cwV 1 hts gX7_put_X7_no rfl rfl rfl (by decide +kernel) ⟨Nat.le_of_ble_eq_true rfl, Nat.le_of_ble_eq_true rfl⟩) (by omega) (mM_m y ad _ _ _) rfl rfl hl.1 rfl (Nat.le_of_ble_eq_true rfl) ⟨Nat.zero_le _, Nat.zero_le _⟩ rfl dX7_put_15 (fun H locs V => ?_)
    obtain rfl := Option.some.inj h
    exact m_iret hx hb hr hlk V (Nat.zero_le _) (Nat.zero_le _) dX7_put_18
-- X7_steal
def f_X7_steal (N : Nat) (th : Int32) (ρ α : mSt) (a1 : Int32) (a2 : Int32) (a3 : Int32) : Option (Int32 × Int32 × mSt × mSt) := (f_X7_isGame N 0 ρ α a1).bind fun q20 => if q20.1 = 0 then (f_X7_no N q20.2.1 q20.2.2.1 q20.2.2.2 1).bind fun q38 => some (q38.1, q38.2.1, q38.2.2.1, q38.2.2.2) else (f_X7_isIn N q20.2.1 q20.2.2.1 q20.2.2.2 a2 0 1).bind fun q22 => if q22.1 = 0 then (f_X7_no N q22.2.1 q22.2.2.1 q22.2.2.2 2).bind fun q24 => some (q24.1, q24.2.1, q24.2.2.1, q24.2.2.2) else (f_X7_isIn N q22.2.1 q22.2.2.1 q22.2.2.2 a3 1 20).bind fun q25 => if q25.1 = 0 then (f_X7_no N q25.2.1 q25.2.2.1 q25.2.2.2 2).bind fun q37 => some (q37.1, q37.2.1, q37.2.2.1, q37.2.2.2) else (f_X6_runs N q25.2.2.1 a1).bind fun q27 => if q27.1 = 0 then (f_X7_no N q25.2.1 q27.2 q25.2.2.2 3).bind fun q29 => some (q29.1, q29.2.1, q29.2.2.1, q29.2.2.2) else if mIn a1 16 then if (q27.2 11 a1.toNatClampNeg) = a2 then (f_X7_no N q25.2.1 q27.2 q25.2.2.2 3).bind fun q36 => some (q36.1, q36.2.1, q36.2.2.1, q36.2.2.2) else if mIn (((2 * a1) + 1) - a2) 32 then if mIn ((2 * a1) + a2) 32 then some (mMin a3 ((q27.2 6 (((2 * a1) + 1) - a2).toNatClampNeg) - 1), q25.2.1, (mUp (mUp (mUp q27.2 6 (((2 * a1) + 1) - a2).toNatClampNeg ((q27.2 6 (((2 * a1) + 1) - a2).toNatClampNeg) - (mMin a3 ((q27.2 6 (((2 * a1) + 1) - a2).toNatClampNeg) - 1)))) 6 ((2 * a1) + a2).toNatClampNeg (((mUp q27.2 6 (((2 * a1) + 1) - a2).toNatClampNeg ((q27.2 6 (((2 * a1) + 1) - a2).toNatClampNeg) - (mMin a3 ((q27.2 6 (((2 * a1) + 1) - a2).toNatClampNeg) - 1)))) 6 ((2 * a1) + a2).toNatClampNeg) + (mMin a3 ((q27.2 6 (((2 * a1) + 1) - a2).toNatClampNeg) - 1)))) 7 ((2 * a1) + a2).toNatClampNeg (((mUp (mUp q27.2 6 (((2 * a1) + 1) - a2).toNatClampNeg ((q27.2 6 (((2 * a1) + 1) - a2).toNatClampNeg) - (mMin a3 ((q27.2 6 (((2 * a1) + 1) - a2).toNatClampNeg) - 1)))) 6 ((2 * a1) + a2).toNatClampNeg (((mUp q27.2 6 (((2 * a1) + 1) - a2).toNatClampNeg ((q27.2 6 (((2 * a1) + 1) - a2).toNatClampNeg) - (mMin a3 ((q27.2 6 (((2 * a1) + 1) - a2).toNatClampNeg) - 1)))) 6 ((2 * a1) + a2).toNatClampNeg) + (mMin a3 ((q27.2 6 (((2 * a1) + 1) - a2).toNatClampNeg) - 1)))) 7 ((2 * a1) + a2).toNatClampNeg) + (mMin a3 ((q27.2 6 (((2 * a1) + 1) - a2).toNatClampNeg) - 1)))), q25.2.2.2) else none else none else none
set_option maxHeartbeats 4000000 in
set_option maxRecDepth 100000 in
theorem c_X7_steal {l : Launch} {D : va_G} {y : Nat → ClassId} {ad : Nat → Nat} {N : Nat} {th : Int32} {ρ α : mSt} {a1 : Int32} {a2 : Int32} {a3 : Int32} {q : Int32 × Int32 × mSt × mSt} (h : f_X7_steal N th ρ α a1 a2 a3 = some q) : mC l yX7_steal wsX7_steal { frames := 2, cells := 0, slots := 0, locals := 43 } D y 43 ad mN (mM y ad th ρ α) [.ref (ad 42), .int a1, .int a2, .int a3] (some (.int q.1)) (mM y ad q.2.1 q.2.2.1 q.2.2.2) 0 0 := by
  refine m_start (cc := cX7_steal) (maxL := 6) (ret := (some .int)) (by decide) rfl (Nat.le_of_ble_eq_true rfl) (fun p e s m args below meth c ls hB _ V Z hl => ?_)
  obtain ⟨hx, hb, hml, hown, hts, hr, hlk⟩ := id hB
  have hl : lv_has ls 6 [(0, .ref (ad 42)), (1, .int a1), (2, .int a2), (3, .int a3)] := hl
  rw [f_X7_steal] at h
  refine lv_aload_n hx hb dX7_steal_0 rfl (lv_at hl 0 rfl) ?_
  refine lv_iconst (v := 0) hx hb dX7_steal_1 (by decide) ?_
  refine pM_th hx hb hts hown (fun _ h => List.mem_cons_of_mem _ (List.mem_append_left _ (List.mem_append_right _ h))) V (hts _ (List.mem_of_getElem? (i := 1) rfl)) dX7_steal_2 (fun H locs V => ?_)
  refine lv_aload_n hx hb dX7_steal_5 rfl (lv_at hl 0 rfl) ?_
  refine lv_iload_n hx hb dX7_steal_6 rfl (lv_at hl 1 rfl) ?_
  obtain ⟨q20, hq20, h⟩ := bd_s h
  refine kMM (As := [.int a1]) (rest := []) ⟨hx, hb, hml, hown, hts⟩ Z V (c_X7_isGame (l := l) (D := D) (y := y) (ad := ad) hq20) (cwV 1 hts gX7_steal_X7_isGame rfl rfl rfl (by decide +kernel) ⟨Nat.le_of_ble_eq_true rfl, Nat.le_of_ble_eq_true rfl⟩) (by omega) (mM_m y ad _ _ _) rfl rfl hl.1 rfl (Nat.le_of_ble_eq_true rfl) ⟨Nat.zero_le _, Nat.zero_le _⟩ rfl dX7_steal_7 (fun H locs V => ?_)
  refine lv_if_ne (tgt := 19) hx hb dX7_steal_10 (by decide) (fun hc21 => ?_) (fun hc21 => ?_)
  · replace h := ite_f hc21 h
    refine lv_iload_n hx hb dX7_steal_19 rfl (lv_at hl 2 rfl) ?_
    refine lv_iconst (v := 0) hx hb dX7_steal_20 (by decide) ?_
    refine lv_iconst (v := 1) hx hb dX7_steal_21 (by decide) ?_
    obtain ⟨q22, hq22, h⟩ := bd_s h
    refine kMMs (As := [.int a2, .int 0, .int 1]) (rest := []) ⟨hx, hb, hml, hown, hts⟩ Z V (c_X7_isIn (l := l) (D := D) (y := y) (ad := ad) hq22) (va_cwS 3 hts gX7_steal_X7_isIn rfl rfl rfl (by decide +kernel) ⟨Nat.le_of_ble_eq_true rfl, Nat.le_of_ble_eq_true rfl⟩) rfl hl.1 rfl (Nat.le_of_ble_eq_true rfl) ⟨Nat.zero_le _, Nat.zero_le _⟩ rfl dX7_steal_22 (fun H locs V => ?_)
    refine lv_if_eq (tgt := 38) hx hb dX7_steal_25 (by decide) (fun hc23 => ?_) (fun hc23 => ?_)
    · replace h := ite_t hc23 h
      refine lv_aload_n hx hb dX7_steal_38 rfl (lv_at hl 0 rfl) ?_
      refine lv_iconst (v := 2) hx hb dX7_steal_39 (by decide) ?_
      obtain ⟨q24, hq24, h⟩ := bd_s h
      refine kMM (As := [.int 2]) (rest := []) ⟨hx, hb, hml, hown, hts⟩ Z V (c_X7_no (l := l) (D := D) (y := y) (ad := ad) hq24) (cwV 1 hts gX7_steal_X7_no rfl rfl rfl (by decide +kernel) ⟨Nat.le_of_ble_eq_true rfl, Nat.le_of_ble_eq_true rfl⟩) (by omega) (mM_m y ad _ _ _) rfl rfl hl.1 rfl (Nat.le_of_ble_eq_true rfl) ⟨Nat.zero_le _, Nat.zero_le _⟩ rfl dX7_steal_40 (fun H locs V => ?_)
      obtain rfl := Option.some.inj h
      exact m_iret hx hb hr hlk V (Nat.zero_le _) (Nat.zero_le _) dX7_steal_43
    · replace h := ite_f hc23 h
      refine lv_iload_n hx hb dX7_steal_28 rfl (lv_at hl 3 rfl) ?_
      refine lv_iconst (v := 1) hx hb dX7_steal_29 (by decide) ?_
      refine lv_bipush (v := 20) hx hb dX7_steal_30 (by decide) ?_
      obtain ⟨q25, hq25, h⟩ := bd_s h
      refine kMMs (As := [.int a3, .int 1, .int 20]) (rest := []) ⟨hx, hb, hml, hown, hts⟩ Z V (c_X7_isIn (l := l) (D := D) (y := y) (ad := ad) hq25) (va_cwS 3 hts gX7_steal_X7_isIn rfl rfl rfl (by decide +kernel) ⟨Nat.le_of_ble_eq_true rfl, Nat.le_of_ble_eq_true rfl⟩) rfl hl.1 rfl (Nat.le_of_ble_eq_true rfl) ⟨Nat.zero_le _, Nat.zero_le _⟩ rfl dX7_steal_32 (fun H locs V => ?_)
      refine lv_if_ne (tgt := 44) hx hb dX7_steal_35 (by decide) (fun hc26 => ?_) (fun hc26 => ?_)
      · replace h := ite_f hc26 h
        refine lv_aload_n hx hb dX7_steal_44 rfl (lv_at hl 0 rfl) ?_
        refine rM_s hx hb hts hown (fun _ h => List.mem_cons_of_mem _ (List.mem_append_left _ (List.mem_append_right _ h))) V (hts _ (List.mem_of_getElem? (i := 2) rfl)) dX7_steal_45 ?_
        refine lv_iload_n hx hb dX7_steal_48 rfl (lv_at hl 1 rfl) ?_
        obtain ⟨q27, hq27, h⟩ := bd_s h
        refine kMR (As := [.int a1]) (rest := []) ⟨hx, hb, hml, hown, hts⟩ V (c_X6_runs (l := l) (D := D) (y := y) (ad := ad) hq27) (cwV 1 hts gX7_steal_X6_runs rfl rfl rfl (by decide +kernel) ⟨Nat.le_of_ble_eq_true rfl, Nat.le_of_ble_eq_true rfl⟩) (by omega) ((mM_0 y ad _ _ _ (by omega)).trans (mR_T y ad _)) rfl rfl hl.1 rfl (Nat.le_of_ble_eq_true rfl) ⟨Nat.zero_le _, Nat.zero_le _⟩ rfl dX7_steal_49 (fun H locs V => ?_)
        refine lv_if_eq (tgt := 68) hx hb dX7_steal_52 (by decide) (fun hc28 => ?_) (fun hc28 => ?_)
        · replace h := ite_t hc28 h
          refine lv_aload_n hx hb dX7_steal_68 rfl (lv_at hl 0 rfl) ?_
          refine lv_iconst (v := 3) hx hb dX7_steal_69 (by decide) ?_
          obtain ⟨q29, hq29, h⟩ := bd_s h
          refine kMM (As := [.int 3]) (rest := []) ⟨hx, hb, hml, hown, hts⟩ Z V (c_X7_no (l := l) (D := D) (y := y) (ad := ad) hq29) (cwV 1 hts gX7_steal_X7_no rfl rfl rfl (by decide +kernel) ⟨Nat.le_of_ble_eq_true rfl, Nat.le_of_ble_eq_true rfl⟩) (by omega) (mM_m y ad _ _ _) rfl rfl hl.1 rfl (Nat.le_of_ble_eq_true rfl) ⟨Nat.zero_le _, Nat.zero_le _⟩ rfl dX7_steal_70 (fun H locs V => ?_)
          obtain rfl := Option.some.inj h
          exact m_iret hx hb hr hlk V (Nat.zero_le _) (Nat.zero_le _) dX7_steal_73
        · replace h := ite_f hc28 h
          refine lv_aload_n hx hb dX7_steal_55 rfl (lv_at hl 0 rfl) ?_
          refine rM_s hx hb hts hown (fun _ h => List.mem_cons_of_mem _ (List.mem_append_left _ (List.mem_append_right _ h))) V (hts _ (List.mem_of_getElem? (i := 2) rfl)) dX7_steal_56 ?_
          refine gM_T hx hb hts hown (fun _ h => List.mem_cons_of_mem _ (List.mem_append_right _ h)) V 14 (by decide) (mN_use (q := (138, "turn", "[I")) Z 21 rfl) (v := .ref (ad 12)) rfl dX7_steal_59 ?_
          refine lv_iload_n hx hb dX7_steal_62 rfl (lv_at hl 1 rfl) ?_
          obtain ⟨hi30, h⟩ := gd_s h
          refine aM_I hx hb V 11 12 16 (by decide) rfl rfl hi30 dX7_steal_63 ?_
          refine lv_iload_n hx hb dX7_steal_64 rfl (lv_at hl 2 rfl) ?_
          refine lv_icmp_ne (tgt := 74) hx hb dX7_steal_65 (by decide) (fun hc31 => ?_) (fun hc31 => ?_)
          · replace h := ite_f hc31 h
            refine lv_iconst (v := 2) hx hb dX7_steal_74 (by decide) ?_
            refine lv_iload_n hx hb dX7_steal_75 rfl (lv_at hl 1 rfl) ?_
            refine lv_imul hx hb dX7_steal_76 ?_
            refine lv_iload_n hx hb dX7_steal_77 rfl (lv_at hl 2 rfl) ?_
            refine lv_iadd hx hb dX7_steal_78 ?_
            refine lv_istore (lv' := [(4, .int ((2 * a1) + a2)), (0, .ref (ad 42)), (1, .int a1), (2, .int a2), (3, .int a3)]) hx hb dX7_steal_79 hl (by decide) rfl (fun ls hl => ?_)
            refine lv_iload_n hx hb dX7_steal_81 rfl (lv_at hl 4 rfl) ?_
            refine lv_aload_n hx hb dX7_steal_82 rfl (lv_at hl 1 rfl) ?_
            refine rM_s hx hb hts hown (fun _ h => List.mem_cons_of_mem _ (List.mem_append_left _ (List.mem_append_right _ h))) V (hts _ (List.mem_of_getElem? (i := 2) rfl)) dX7_steal_83 ?_
            refine gM_T hx hb hts hown (fun _ h => List.mem_cons_of_mem _ (List.mem_append_right _ h)) V 9 (by decide) (mN_use (q := (123, "clock", "[I")) Z 17 rfl) (v := .ref (ad 7)) rfl dX7_steal_86 ?_
            refine lv_iconst (v := 2) hx hb dX7_steal_89 (by decide) ?_
            refine lv_iload_n hx hb dX7_steal_90 rfl (lv_at hl 2 rfl) ?_
            refine lv_imul hx hb dX7_steal_91 ?_
            refine lv_iconst (v := 1) hx hb dX7_steal_92 (by decide) ?_
            refine lv_iadd hx hb dX7_steal_93 ?_
            refine lv_iload_n hx hb dX7_steal_94 rfl (lv_at hl 3 rfl) ?_
            refine lv_isub hx hb dX7_steal_95 ?_
            obtain ⟨hi32, h⟩ := gd_s h
            refine aM_I hx hb V 6 7 32 (by decide) rfl rfl hi32 dX7_steal_96 ?_
            refine lv_iconst (v := 1) hx hb dX7_steal_97 (by decide) ?_
            refine lv_isub hx hb dX7_steal_98 ?_
            refine m_min hx hb hml hl.1 hown (hts _ (List.mem_of_getElem? (i := 3) rfl)) (hts _ (List.mem_of_getElem? (i := 4) rfl)) (hts _ (List.mem_of_getElem? (i := 5) rfl)) (hts _ (List.mem_of_getElem? (i := 6) rfl)) (Nat.le_of_ble_eq_true rfl) (Nat.le_of_ble_eq_true rfl) (Nat.zero_le _) (Nat.zero_le _) dX7_steal_99 ?_
            refine lv_istore (lv' := [(5, .int (mMin a3 ((q27.2 6 (((2 * a1) + 1) - a2).toNatClampNeg) - 1))), (4, .int ((2 * a1) + a2)), (0, .ref (ad 42)), (1, .int a1), (2, .int a2), (3, .int a3)]) hx hb dX7_steal_102 hl (by decide) rfl (fun ls hl => ?_)
            refine lv_aload_n hx hb dX7_steal_104 rfl (lv_at hl 2 rfl) ?_
            refine rM_s hx hb hts hown (fun _ h => List.mem_cons_of_mem _ (List.mem_append_left _ (List.mem_append_right _ h))) V (hts _ (List.mem_of_getElem? (i := 2) rfl)) dX7_steal_105 ?_
            refine gM_T hx hb hts hown (fun _ h => List.mem_cons_of_mem _ (List.mem_append_right _ h)) V 9 (by decide) (mN_use (q := (123, "clock", "[I")) Z 17 rfl) (v := .ref (ad 7)) rfl dX7_steal_108 ?_
            refine lv_iconst (v := 2) hx hb dX7_steal_111 (by decide) ?_
            refine lv_iload_n hx hb dX7_steal_112 rfl (lv_at hl 3 rfl) ?_
            refine lv_imul hx hb dX7_steal_113 ?_
            refine lv_iconst (v := 1) hx hb dX7_steal_114 (by decide) ?_
            refine lv_iadd hx hb dX7_steal_115 ?_
            refine lv_iload_n hx hb dX7_steal_116 rfl (lv_at hl 4 rfl) ?_
            refine lv_isub hx hb dX7_steal_117 ?_
            refine lv_dup2_11 hx hb dX7_steal_118 rfl rfl ?_
            refine aM_I hx hb V 6 7 32 (by decide) rfl rfl hi32 dX7_steal_119 ?_
            refine lv_iload hx hb dX7_steal_120 (lv_at hl 0 rfl) ?_
            refine lv_isub hx hb dX7_steal_122 ?_
            refine bM_I hx hb V 6 7 32 (by decide) rfl rfl hi32 dX7_steal_123 (fun H locs V => ?_)
            refine lv_aload_n hx hb dX7_steal_124 rfl (lv_at hl 2 rfl) ?_
            refine rM_s hx hb hts hown (fun _ h => List.mem_cons_of_mem _ (List.mem_append_left _ (List.mem_append_right _ h))) V (hts _ (List.mem_of_getElem? (i := 2) rfl)) dX7_steal_125 ?_
            refine gM_T hx hb hts hown (fun _ h => List.mem_cons_of_mem _ (List.mem_append_right _ h)) V 9 (by decide) (mN_use (q := (123, "clock", "[I")) Z 17 rfl) (v := .ref (ad 7)) rfl dX7_steal_128 ?_
            refine lv_iload hx hb dX7_steal_131 (lv_at hl 1 rfl) ?_
            refine lv_dup2_11 hx hb dX7_steal_133 rfl rfl ?_
            obtain ⟨hi34, h⟩ := gd_s h
            refine aM_I hx hb V 6 7 32 (by decide) rfl rfl hi34 dX7_steal_134 ?_
            refine lv_iload hx hb dX7_steal_135 (lv_at hl 0 rfl) ?_
            refine lv_iadd hx hb dX7_steal_137 ?_
            refine bM_I hx hb V 6 7 32 (by decide) rfl rfl hi34 dX7_steal_138 (fun H locs V => ?_)
            refine lv_aload_n hx hb dX7_steal_139 rfl (lv_at hl 2 rfl) ?_
            refine rM_s hx hb hts hown (fun _ h => List.mem_cons_of_mem _ (List.mem_append_left _ (List.mem_append_right _ h))) V (hts _ (List.mem_of_getElem? (i := 2) rfl)) dX7_steal_140 ?_
            refine gM_T hx hb hts hown (fun _ h => List.mem_cons_of_mem _ (List.mem_append_right _ h)) V 10 (by decide) (mN_use (q := (147, "stolen", "[I")) Z 24 rfl) (v := .ref (ad 8)) rfl dX7_steal_143 ?_
            refine lv_iload hx hb dX7_steal_146 (lv_at hl 1 rfl) ?_
            refine lv_dup2_11 hx hb dX7_steal_148 rfl rfl ?_
            refine aM_I hx hb V 7 8 32 (by decide) rfl rfl hi34 dX7_steal_149 ?_
            refine lv_iload hx hb dX7_steal_150 (lv_at hl 0 rfl) ?_
            refine lv_iadd hx hb dX7_steal_152 ?_
            refine bM_I hx hb V 7 8 32 (by decide) rfl rfl hi34 dX7_steal_153 (fun H locs V => ?_)
            refine lv_iload hx hb dX7_steal_154 (lv_at hl 0 rfl) ?_
            obtain rfl := Option.some.inj h
            exact m_iret hx hb hr hlk V (Nat.zero_le _) (Nat.zero_le _) dX7_steal_156
          · replace h := ite_t hc31 h
            refine lv_aload_n hx hb dX7_steal_68 rfl (lv_at hl 0 rfl) ?_
            refine lv_iconst (v := 3) hx hb dX7_steal_69 (by decide) ?_
            obtain ⟨q36, hq36, h⟩ := bd_s h
            refine kMM (As := [.int 3]) (rest := []) ⟨hx, hb, hml, hown, hts⟩ Z V (c_X7_no (l := l) (D := D) (y := y) (ad := ad) hq36) (cwV 1 hts gX7_steal_X7_no rfl rfl rfl (by decide +kernel) ⟨Nat.le_of_ble_eq_true rfl, Nat.le_of_ble_eq_true rfl⟩) (by omega) (mM_m y ad _ _ _) rfl rfl hl.1 rfl (Nat.le_of_ble_eq_true rfl) ⟨Nat.zero_le _, Nat.zero_le _⟩ rfl dX7_steal_70 (fun H locs V => ?_)
            obtain rfl := Option.some.inj h
            exact m_iret hx hb hr hlk V (Nat.zero_le _) (Nat.zero_le _) dX7_steal_73
      · replace h := ite_t hc26 h
        refine lv_aload_n hx hb dX7_steal_38 rfl (lv_at hl 0 rfl) ?_
        refine lv_iconst (v := 2) hx hb dX7_steal_39 (by decide) ?_
        obtain ⟨q37, hq37, h⟩ := bd_s h
        refine kMM (As := [.int 2]) (rest := []) ⟨hx, hb, hml, hown, hts⟩ Z V (c_X7_no (l := l) (D := D) (y := y) (ad := ad) hq37) (cwV 1 hts gX7_steal_X7_no rfl rfl rfl (by decide +kernel) ⟨Nat.le_of_ble_eq_true rfl, Nat.le_of_ble_eq_true rfl⟩) (by omega) (mM_m y ad _ _ _) rfl rfl hl.1 rfl (Nat.le_of_ble_eq_true rfl) ⟨Nat.zero_le _, Nat.zero_le _⟩ rfl dX7_steal_40 (fun H locs V => ?_)
        obtain rfl := Option.some.inj h
        exact m_iret hx hb hr hlk V (Nat.zero_le _) (Nat.zero_le _) dX7_steal_43
  · replace h := ite_t hc21 h
    refine lv_aload_n hx hb dX7_steal_13 rfl (lv_at hl 0 rfl) ?_
    refine lv_iconst (v := 1) hx hb dX7_steal_14 (by decide) ?_
    obtain ⟨q38, hq38, h⟩ := bd_s h
    refine kMM (As := [.int 1]) (rest := []) ⟨hx, hb, hml, hown, hts⟩ Z V (c_X7_no (l := l) (D := D) (y := y) (ad := ad) hq38) (cwV 1 hts gX7_steal_X7_no rfl rfl rfl (by decide +kernel) ⟨Nat.le_of_ble_eq_true rfl, Nat.le_of_ble_eq_true rfl⟩) (by omega) (mM_m y ad _ _ _) rfl rfl hl.1 rfl (Nat.le_of_ble_eq_true rfl) ⟨Nat.zero_le _, Nat.zero_le _⟩ rfl dX7_steal_15 (fun H locs V => ?_)
    obtain rfl := Option.some.inj h
    exact m_iret hx hb hr hlk V (Nat.zero_le _) (Nat.zero_le _) dX7_steal_18
-- X7_end
def f_X7_end (N : Nat) (th : Int32) (ρ α : mSt) (a1 : Int32) (a2 : Int32) : Option (Int32 × Int32 × mSt × mSt) := (f_X7_isGame N 0 ρ α a1).bind fun q13 => if q13.1 = 0 then (f_X7_no N q13.2.1 q13.2.2.1 q13.2.2.2 1).bind fun q24 => some (q24.1, q24.2.1, q24.2.2.1, q24.2.2.2) else (f_X7_isIn N q13.2.1 q13.2.2.1 q13.2.2.2 a2 (-1) 1).bind fun q15 => if q15.1 = 0 then (f_X7_no N q15.2.1 q15.2.2.1 q15.2.2.2 2).bind fun q23 => some (q23.1, q23.2.1, q23.2.2.1, q23.2.2.2) else (f_X6_runs N q15.2.2.1 a1).bind fun q17 => if q17.1 = 0 then (f_X7_no N q15.2.1 q17.2 q15.2.2.2 3).bind fun q22 => some (q22.1, q22.2.1, q22.2.2.1, q22.2.2.2) else if a2 < 0 then (f_X6_stop N q17.2 a1).bind fun q20 => some (0, q15.2.1, q20.2, q15.2.2.2) else (f_X6_win N q17.2 a1 (1 - a2)).bind fun q21 => some (q21.1, q15.2.1, q21.2, q15.2.2.2)
set_option maxHeartbeats 4000000 in
set_option maxRecDepth 100000 in
theorem c_X7_end {l : Launch} {D : va_G} {y : Nat → ClassId} {ad : Nat → Nat} {N : Nat} {th : Int32} {ρ α : mSt} {a1 : Int32} {a2 : Int32} {q : Int32 × Int32 × mSt × mSt} (h : f_X7_end N th ρ α a1 a2 = some q) : mC l yX7_end wsX7_end { frames := 2, cells := 0, slots := 0, locals := 43 } D y 43 ad mN (mM y ad th ρ α) [.ref (ad 42), .int a1, .int a2] (some (.int q.1)) (mM y ad q.2.1 q.2.2.1 q.2.2.2) 0 0 := by
  refine m_start (cc := cX7_end) (maxL := 3) (ret := (some .int)) (by decide) rfl (Nat.le_of_ble_eq_true rfl) (fun p e s m args below meth c ls hB _ V Z hl => ?_)
  obtain ⟨hx, hb, hml, hown, hts, hr, hlk⟩ := id hB
  have hl : lv_has ls 3 [(0, .ref (ad 42)), (1, .int a1), (2, .int a2)] := hl
  rw [f_X7_end] at h
  refine lv_aload_n hx hb dX7_end_0 rfl (lv_at hl 0 rfl) ?_
  refine lv_iconst (v := 0) hx hb dX7_end_1 (by decide) ?_
  refine pM_th hx hb hts hown (fun _ h => List.mem_cons_of_mem _ (List.mem_append_left _ (List.mem_append_right _ h))) V (hts _ (List.mem_of_getElem? (i := 1) rfl)) dX7_end_2 (fun H locs V => ?_)
  refine lv_aload_n hx hb dX7_end_5 rfl (lv_at hl 0 rfl) ?_
  refine lv_iload_n hx hb dX7_end_6 rfl (lv_at hl 1 rfl) ?_
  obtain ⟨q13, hq13, h⟩ := bd_s h
  refine kMM (As := [.int a1]) (rest := []) ⟨hx, hb, hml, hown, hts⟩ Z V (c_X7_isGame (l := l) (D := D) (y := y) (ad := ad) hq13) (cwV 1 hts gX7_end_X7_isGame rfl rfl rfl (by decide +kernel) ⟨Nat.le_of_ble_eq_true rfl, Nat.le_of_ble_eq_true rfl⟩) (by omega) (mM_m y ad _ _ _) rfl rfl hl.1 rfl (Nat.le_of_ble_eq_true rfl) ⟨Nat.zero_le _, Nat.zero_le _⟩ rfl dX7_end_7 (fun H locs V => ?_)
  refine lv_if_ne (tgt := 19) hx hb dX7_end_10 (by decide) (fun hc14 => ?_) (fun hc14 => ?_)
  · replace h := ite_f hc14 h
    refine lv_iload_n hx hb dX7_end_19 rfl (lv_at hl 2 rfl) ?_
    refine lv_iconst (v := (-1)) hx hb dX7_end_20 (by decide) ?_
    refine lv_iconst (v := 1) hx hb dX7_end_21 (by decide) ?_
    obtain ⟨q15, hq15, h⟩ := bd_s h
    refine kMMs (As := [.int a2, .int (-1), .int 1]) (rest := []) ⟨hx, hb, hml, hown, hts⟩ Z V (c_X7_isIn (l := l) (D := D) (y := y) (ad := ad) hq15) (va_cwS 3 hts gX7_end_X7_isIn rfl rfl rfl (by decide +kernel) ⟨Nat.le_of_ble_eq_true rfl, Nat.le_of_ble_eq_true rfl⟩) rfl hl.1 rfl (Nat.le_of_ble_eq_true rfl) ⟨Nat.zero_le _, Nat.zero_le _⟩ rfl dX7_end_22 (fun H locs V => ?_)
    refine lv_if_ne (tgt := 34) hx hb dX7_end_25 (by decide) (fun hc16 => ?_) (fun hc16 => ?_)
    · replace h := ite_f hc16 h
      refine lv_aload_n hx hb dX7_end_34 rfl (lv_at hl 0 rfl) ?_
      refine rM_s hx hb hts hown (fun _ h => List.mem_cons_of_mem _ (List.mem_append_left _ (List.mem_append_right _ h))) V (hts _ (List.mem_of_getElem? (i := 2) rfl)) dX7_end_35 ?_
      refine lv_iload_n hx hb dX7_end_38 rfl (lv_at hl 1 rfl) ?_
      obtain ⟨q17, hq17, h⟩ := bd_s h
      refine kMR (As := [.int a1]) (rest := []) ⟨hx, hb, hml, hown, hts⟩ V (c_X6_runs (l := l) (D := D) (y := y) (ad := ad) hq17) (cwV 1 hts gX7_end_X6_runs rfl rfl rfl (by decide +kernel) ⟨Nat.le_of_ble_eq_true rfl, Nat.le_of_ble_eq_true rfl⟩) (by omega) ((mM_0 y ad _ _ _ (by omega)).trans (mR_T y ad _)) rfl rfl hl.1 rfl (Nat.le_of_ble_eq_true rfl) ⟨Nat.zero_le _, Nat.zero_le _⟩ rfl dX7_end_39 (fun H locs V => ?_)
      refine lv_if_ne (tgt := 51) hx hb dX7_end_42 (by decide) (fun hc18 => ?_) (fun hc18 => ?_)
      · replace h := ite_f hc18 h
        refine lv_iload_n hx hb dX7_end_51 rfl (lv_at hl 2 rfl) ?_
        refine lv_if_lt (tgt := 67) hx hb dX7_end_52 (by decide) (fun hc19 => ?_) (fun hc19 => ?_)
        · replace h := ite_t hc19 h
          refine lv_aload_n hx hb dX7_end_67 rfl (lv_at hl 0 rfl) ?_
          refine rM_s hx hb hts hown (fun _ h => List.mem_cons_of_mem _ (List.mem_append_left _ (List.mem_append_right _ h))) V (hts _ (List.mem_of_getElem? (i := 2) rfl)) dX7_end_68 ?_
          refine lv_iload_n hx hb dX7_end_71 rfl (lv_at hl 1 rfl) ?_
          obtain ⟨q20, hq20, h⟩ := bd_s h
          refine kMR (As := [.int a1]) (rest := []) ⟨hx, hb, hml, hown, hts⟩ V (c_X6_stop (l := l) (D := D) (y := y) (ad := ad) hq20) (cwV 1 hts gX7_end_X6_stop rfl rfl rfl (by decide +kernel) ⟨Nat.le_of_ble_eq_true rfl, Nat.le_of_ble_eq_true rfl⟩) (by omega) ((mM_0 y ad _ _ _ (by omega)).trans (mR_T y ad _)) rfl rfl hl.1 rfl (Nat.le_of_ble_eq_true rfl) ⟨Nat.zero_le _, Nat.zero_le _⟩ rfl dX7_end_72 (fun H locs V => ?_)
          refine lv_iconst (v := 0) hx hb dX7_end_75 (by decide) ?_
          obtain rfl := Option.some.inj h
          exact m_iret hx hb hr hlk V (Nat.zero_le _) (Nat.zero_le _) dX7_end_76
        · replace h := ite_f hc19 h
          refine lv_aload_n hx hb dX7_end_55 rfl (lv_at hl 0 rfl) ?_
          refine rM_s hx hb hts hown (fun _ h => List.mem_cons_of_mem _ (List.mem_append_left _ (List.mem_append_right _ h))) V (hts _ (List.mem_of_getElem? (i := 2) rfl)) dX7_end_56 ?_
          refine lv_iload_n hx hb dX7_end_59 rfl (lv_at hl 1 rfl) ?_
          refine lv_iconst (v := 1) hx hb dX7_end_60 (by decide) ?_
          refine lv_iload_n hx hb dX7_end_61 rfl (lv_at hl 2 rfl) ?_
          refine lv_isub hx hb dX7_end_62 ?_
          obtain ⟨q21, hq21, h⟩ := bd_s h
          refine kMR (As := [.int a1, .int (1 - a2)]) (rest := []) ⟨hx, hb, hml, hown, hts⟩ V (c_X6_win (l := l) (D := D) (y := y) (ad := ad) hq21) (cwV 2 hts gX7_end_X6_win rfl rfl rfl (by decide +kernel) ⟨Nat.le_of_ble_eq_true rfl, Nat.le_of_ble_eq_true rfl⟩) (by omega) ((mM_0 y ad _ _ _ (by omega)).trans (mR_T y ad _)) rfl rfl hl.1 rfl (Nat.le_of_ble_eq_true rfl) ⟨Nat.zero_le _, Nat.zero_le _⟩ rfl dX7_end_63 (fun H locs V => ?_)
          obtain rfl := Option.some.inj h
          exact m_iret hx hb hr hlk V (Nat.zero_le _) (Nat.zero_le _) dX7_end_66
      · replace h := ite_t hc18 h
        refine lv_aload_n hx hb dX7_end_45 rfl (lv_at hl 0 rfl) ?_
        refine lv_iconst (v := 3) hx hb dX7_end_46 (by decide) ?_
        obtain ⟨q22, hq22, h⟩ := bd_s h
        refine kMM (As := [.int 3]) (rest := []) ⟨hx, hb, hml, hown, hts⟩ Z V (c_X7_no (l := l) (D := D) (y := y) (ad := ad) hq22) (cwV 1 hts gX7_end_X7_no rfl rfl rfl (by decide +kernel) ⟨Nat.le_of_ble_eq_true rfl, Nat.le_of_ble_eq_true rfl⟩) (by omega) (mM_m y ad _ _ _) rfl rfl hl.1 rfl (Nat.le_of_ble_eq_true rfl) ⟨Nat.zero_le _, Nat.zero_le _⟩ rfl dX7_end_47 (fun H locs V => ?_)
        obtain rfl := Option.some.inj h
        exact m_iret hx hb hr hlk V (Nat.zero_le _) (Nat.zero_le _) dX7_end_50
    · replace h := ite_t hc16 h
      refine lv_aload_n hx hb dX7_end_28 rfl (lv_at hl 0 rfl) ?_
      refine lv_iconst (v := 2) hx hb dX7_end_29 (by decide) ?_
      obtain ⟨q23, hq23, h⟩ := bd_s h
      refine kMM (As := [.int 2]) (rest := []) ⟨hx, hb, hml, hown, hts⟩ Z V (c_X7_no (l := l) (D := D) (y := y) (ad := ad) hq23) (cwV 1 hts gX7_end_X7_no rfl rfl rfl (by decide +kernel) ⟨Nat.le_of_ble_eq_true rfl, Nat.le_of_ble_eq_true rfl⟩) (by omega) (mM_m y ad _ _ _) rfl rfl hl.1 rfl (Nat.le_of_ble_eq_true rfl) ⟨Nat.zero_le _, Nat.zero_le _⟩ rfl dX7_end_30 (fun H locs V => ?_)
      obtain rfl := Option.some.inj h
      exact m_iret hx hb hr hlk V (Nat.zero_le _) (Nat.zero_le _) dX7_end_33
  · replace h := ite_t hc14 h
    refine lv_aload_n hx hb dX7_end_13 rfl (lv_at hl 0 rfl) ?_
    refine lv_iconst (v := 1) hx hb dX7_end_14 (by decide) ?_
    obtain ⟨q24, hq24, h⟩ := bd_s h
    refine kMM (As := [.int 1]) (rest := []) ⟨hx, hb, hml, hown, hts⟩ Z V (c_X7_no (l := l) (D := D) (y := y) (ad := ad) hq24) (cwV 1 hts gX7_end_X7_no rfl rfl rfl (by decide +kernel) ⟨Nat.le_of_ble_eq_true rfl, Nat.le_of_ble_eq_true rfl⟩) (by omega) (mM_m y ad _ _ _) rfl rfl hl.1 rfl (Nat.le_of_ble_eq_true rfl) ⟨Nat.zero_le _, Nat.zero_le _⟩ rfl dX7_end_15 (fun H locs V => ?_)
    obtain rfl := Option.some.inj h
    exact m_iret hx hb hr hlk V (Nat.zero_le _) (Nat.zero_le _) dX7_end_18
-- X7_gameTold
def f_X7_gameTold_52 (N : Nat) (a1 : Int32) (a2 : Int32)  (th : Int32) (ρ α : mSt)  : Option (Int32 × Int32 × mSt × mSt) := if mIn (((2 * a1) + a2) - 8) 32 then some (ρ 7 (((2 * a1) + a2) - 8).toNatClampNeg, th, ρ, α) else none
set_option maxHeartbeats 4000000 in
set_option maxRecDepth 100000 in
theorem w_X7_gameTold_52 {l : Launch} {D : va_G} {y : Nat → ClassId} {ad : Nat → Nat} {N : Nat} {p : Program} {e : Env} {s : State} {m : MethodId} {args : Array Value} {below : List Frame} {meth : Method} {c : Code} (Z : mN (mFree 43 ad s.heap.size) s) (hB : mBd p s m args meth c cX7_gameTold 3 wsX7_gameTold RX7 (some .int)) {a1 : Int32} {a2 : Int32} {q : Int32 × Int32 × mSt × mSt}   : ∀ (th : Int32) (ρ α : mSt) , f_X7_gameTold_52 N a1 a2  th ρ α = some q → ∀ (H : Heap) (locs : List Loc) (ls : Array Slot), mV D y (mFree 43 ad s.heap.size) s s.heap H locs 43 ad (mM y ad th ρ α) → lv_has ls 3 [(0, .ref (ad 42)), (1, .int a1), (2, .int a2)] → W p l e { frames := 0, cells := 0, slots := 0, locals := 0 } s m args below meth c H locs 0 0 (MQ below (mQ (some (.int q.1)) D 43 ad (mM y ad q.2.1 q.2.2.1 q.2.2.2) s.heap.size) args s 0 0 (mFree 43 ad s.heap.size)) (F0 m 52 ls []) := by
  obtain ⟨hx, hb, hml, hown, hts, hr, hlk⟩ := id hB
  intro th ρ α h H locs ls V hl
  rw [f_X7_gameTold_52] at h
  refine lv_aload_n hx hb dX7_gameTold_52 rfl (lv_at hl 0 rfl) ?_
  refine rM_s hx hb hts hown (fun _ h => List.mem_cons_of_mem _ (List.mem_append_left _ (List.mem_append_right _ h))) V (hts _ (List.mem_of_getElem? (i := 1) rfl)) dX7_gameTold_53 ?_
  refine gM_T hx hb hts hown (fun _ h => List.mem_cons_of_mem _ (List.mem_append_right _ h)) V 10 (by decide) (mN_use (q := (147, "stolen", "[I")) Z 24 rfl) (v := .ref (ad 8)) rfl dX7_gameTold_56 ?_
  refine lv_iconst (v := 2) hx hb dX7_gameTold_59 (by decide) ?_
  refine lv_iload_n hx hb dX7_gameTold_60 rfl (lv_at hl 1 rfl) ?_
  refine lv_imul hx hb dX7_gameTold_61 ?_
  refine lv_iload_n hx hb dX7_gameTold_62 rfl (lv_at hl 2 rfl) ?_
  refine lv_iadd hx hb dX7_gameTold_63 ?_
  refine lv_bipush (v := 8) hx hb dX7_gameTold_64 (by decide) ?_
  refine lv_isub hx hb dX7_gameTold_66 ?_
  obtain ⟨hi17, h⟩ := gd_s h
  refine aM_I hx hb V 7 8 32 (by decide) rfl rfl hi17 dX7_gameTold_67 ?_
  obtain rfl := Option.some.inj h
  exact m_iret hx hb hr hlk V (Nat.zero_le _) (Nat.zero_le _) dX7_gameTold_68
def f_X7_gameTold (N : Nat) (th : Int32) (ρ α : mSt) (a1 : Int32) (a2 : Int32) : Option (Int32 × Int32 × mSt × mSt) := if 2 ≤ a2 then if 4 ≤ a2 then if a2 = 8 then f_X7_gameTold_52 N a1 a2 th ρ α else if a2 = 9 then f_X7_gameTold_52 N a1 a2 th ρ α else if a2 = 4 then if mIn a1 16 then some (ρ 11 a1.toNatClampNeg, th, ρ, α) else none else if a2 = 5 then if mIn a1 16 then some (ρ 12 a1.toNatClampNeg, th, ρ, α) else none else if a2 = 6 then if mIn a1 16 then some (ρ 13 a1.toNatClampNeg, th, ρ, α) else none else if a2 = 7 then if mIn a1 16 then some (ρ 14 a1.toNatClampNeg, th, ρ, α) else none else if mIn a1 16 then some (ρ 10 a1.toNatClampNeg, th, ρ, α) else none else if mIn (((2 * a1) + a2) - 2) 32 then some (ρ 6 (((2 * a1) + a2) - 2).toNatClampNeg, th, ρ, α) else none else if mIn ((2 * a1) + a2) 32 then some (ρ 5 ((2 * a1) + a2).toNatClampNeg, th, ρ, α) else none
set_option maxHeartbeats 4000000 in
set_option maxRecDepth 100000 in
theorem c_X7_gameTold {l : Launch} {D : va_G} {y : Nat → ClassId} {ad : Nat → Nat} {N : Nat} {th : Int32} {ρ α : mSt} {a1 : Int32} {a2 : Int32} {q : Int32 × Int32 × mSt × mSt} (h : f_X7_gameTold N th ρ α a1 a2 = some q) : mC l yX7_gameTold wsX7_gameTold { frames := 0, cells := 0, slots := 0, locals := 0 } D y 43 ad mN (mM y ad th ρ α) [.ref (ad 42), .int a1, .int a2] (some (.int q.1)) (mM y ad q.2.1 q.2.2.1 q.2.2.2) 0 0 := by
  refine m_start (cc := cX7_gameTold) (maxL := 3) (ret := (some .int)) (by decide) rfl (Nat.le_of_ble_eq_true rfl) (fun p e s m args below meth c ls hB _ V Z hl => ?_)
  obtain ⟨hx, hb, hml, hown, hts, hr, hlk⟩ := id hB
  have hl : lv_has ls 3 [(0, .ref (ad 42)), (1, .int a1), (2, .int a2)] := hl
  rw [f_X7_gameTold] at h
  refine lv_iload_n hx hb dX7_gameTold_0 rfl (lv_at hl 2 rfl) ?_
  refine lv_iconst (v := 2) hx hb dX7_gameTold_1 (by decide) ?_
  refine lv_icmp_ge (tgt := 19) hx hb dX7_gameTold_2 (by decide) (fun hc18 => ?_) (fun hc18 => ?_)
  · replace h := ite_t hc18 h
    refine lv_iload_n hx hb dX7_gameTold_19 rfl (lv_at hl 2 rfl) ?_
    refine lv_iconst (v := 4) hx hb dX7_gameTold_20 (by decide) ?_
    refine lv_icmp_ge (tgt := 40) hx hb dX7_gameTold_21 (by decide) (fun hc19 => ?_) (fun hc19 => ?_)
    · replace h := ite_t hc19 h
      refine lv_iload_n hx hb dX7_gameTold_40 rfl (lv_at hl 2 rfl) ?_
      refine lv_bipush (v := 8) hx hb dX7_gameTold_41 (by decide) ?_
      refine lv_icmp_eq (tgt := 52) hx hb dX7_gameTold_43 (by decide) (fun hc20 => ?_) (fun hc20 => ?_)
      · replace h := ite_t hc20 h
        exact w_X7_gameTold_52 Z hB _ _ _ h _ _ _ V (lv_sub hl [0, 1, 2] rfl)
      · replace h := ite_f hc20 h
        refine lv_iload_n hx hb dX7_gameTold_46 rfl (lv_at hl 2 rfl) ?_
        refine lv_bipush (v := 9) hx hb dX7_gameTold_47 (by decide) ?_
        refine lv_icmp_ne (tgt := 69) hx hb dX7_gameTold_49 (by decide) (fun hc21 => ?_) (fun hc21 => ?_)
        · replace h := ite_f hc21 h
          refine lv_iload_n hx hb dX7_gameTold_69 rfl (lv_at hl 2 rfl) ?_
          refine lv_iconst (v := 4) hx hb dX7_gameTold_70 (by decide) ?_
          refine lv_icmp_ne (tgt := 86) hx hb dX7_gameTold_71 (by decide) (fun hc22 => ?_) (fun hc22 => ?_)
          · replace h := ite_f hc22 h
            refine lv_iload_n hx hb dX7_gameTold_86 rfl (lv_at hl 2 rfl) ?_
            refine lv_iconst (v := 5) hx hb dX7_gameTold_87 (by decide) ?_
            refine lv_icmp_ne (tgt := 103) hx hb dX7_gameTold_88 (by decide) (fun hc23 => ?_) (fun hc23 => ?_)
            · replace h := ite_f hc23 h
              refine lv_iload_n hx hb dX7_gameTold_103 rfl (lv_at hl 2 rfl) ?_
              refine lv_bipush (v := 6) hx hb dX7_gameTold_104 (by decide) ?_
              refine lv_icmp_ne (tgt := 121) hx hb dX7_gameTold_106 (by decide) (fun hc24 => ?_) (fun hc24 => ?_)
              · replace h := ite_f hc24 h
                refine lv_iload_n hx hb dX7_gameTold_121 rfl (lv_at hl 2 rfl) ?_
                refine lv_bipush (v := 7) hx hb dX7_gameTold_122 (by decide) ?_
                refine lv_icmp_ne (tgt := 139) hx hb dX7_gameTold_124 (by decide) (fun hc25 => ?_) (fun hc25 => ?_)
                · replace h := ite_f hc25 h
                  refine lv_aload_n hx hb dX7_gameTold_139 rfl (lv_at hl 0 rfl) ?_
                  refine rM_s hx hb hts hown (fun _ h => List.mem_cons_of_mem _ (List.mem_append_left _ (List.mem_append_right _ h))) V (hts _ (List.mem_of_getElem? (i := 1) rfl)) dX7_gameTold_140 ?_
                  refine gM_T hx hb hts hown (fun _ h => List.mem_cons_of_mem _ (List.mem_append_right _ h)) V 13 (by decide) (mN_use (q := (132, "stake", "[I")) Z 20 rfl) (v := .ref (ad 11)) rfl dX7_gameTold_143 ?_
                  refine lv_iload_n hx hb dX7_gameTold_146 rfl (lv_at hl 1 rfl) ?_
                  obtain ⟨hi26, h⟩ := gd_s h
                  refine aM_I hx hb V 10 11 16 (by decide) rfl rfl hi26 dX7_gameTold_147 ?_
                  obtain rfl := Option.some.inj h
                  exact m_iret hx hb hr hlk V (Nat.zero_le _) (Nat.zero_le _) dX7_gameTold_148
                · replace h := ite_t hc25 h
                  refine lv_aload_n hx hb dX7_gameTold_127 rfl (lv_at hl 0 rfl) ?_
                  refine rM_s hx hb hts hown (fun _ h => List.mem_cons_of_mem _ (List.mem_append_left _ (List.mem_append_right _ h))) V (hts _ (List.mem_of_getElem? (i := 1) rfl)) dX7_gameTold_128 ?_
                  refine gM_T hx hb hts hown (fun _ h => List.mem_cons_of_mem _ (List.mem_append_right _ h)) V 17 (by decide) (mN_use (q := (156, "state", "[I")) Z 25 rfl) (v := .ref (ad 15)) rfl dX7_gameTold_131 ?_
                  refine lv_iload_n hx hb dX7_gameTold_134 rfl (lv_at hl 1 rfl) ?_
                  obtain ⟨hi27, h⟩ := gd_s h
                  refine aM_I hx hb V 14 15 16 (by decide) rfl rfl hi27 dX7_gameTold_135 ?_
                  refine lv_goto (tgt := 148) hx hb dX7_gameTold_136 (by decide) ?_
                  obtain rfl := Option.some.inj h
                  exact m_iret hx hb hr hlk V (Nat.zero_le _) (Nat.zero_le _) dX7_gameTold_148
              · replace h := ite_t hc24 h
                refine lv_aload_n hx hb dX7_gameTold_109 rfl (lv_at hl 0 rfl) ?_
                refine rM_s hx hb hts hown (fun _ h => List.mem_cons_of_mem _ (List.mem_append_left _ (List.mem_append_right _ h))) V (hts _ (List.mem_of_getElem? (i := 1) rfl)) dX7_gameTold_110 ?_
                refine gM_T hx hb hts hown (fun _ h => List.mem_cons_of_mem _ (List.mem_append_right _ h)) V 16 (by decide) (mN_use (q := (141, "since", "[I")) Z 22 rfl) (v := .ref (ad 14)) rfl dX7_gameTold_113 ?_
                refine lv_iload_n hx hb dX7_gameTold_116 rfl (lv_at hl 1 rfl) ?_
                obtain ⟨hi28, h⟩ := gd_s h
                refine aM_I hx hb V 13 14 16 (by decide) rfl rfl hi28 dX7_gameTold_117 ?_
                refine lv_goto (tgt := 148) hx hb dX7_gameTold_118 (by decide) ?_
                obtain rfl := Option.some.inj h
                exact m_iret hx hb hr hlk V (Nat.zero_le _) (Nat.zero_le _) dX7_gameTold_148
            · replace h := ite_t hc23 h
              refine lv_aload_n hx hb dX7_gameTold_91 rfl (lv_at hl 0 rfl) ?_
              refine rM_s hx hb hts hown (fun _ h => List.mem_cons_of_mem _ (List.mem_append_left _ (List.mem_append_right _ h))) V (hts _ (List.mem_of_getElem? (i := 1) rfl)) dX7_gameTold_92 ?_
              refine gM_T hx hb hts hown (fun _ h => List.mem_cons_of_mem _ (List.mem_append_right _ h)) V 15 (by decide) (mN_use (q := (144, "moves", "[I")) Z 23 rfl) (v := .ref (ad 13)) rfl dX7_gameTold_95 ?_
              refine lv_iload_n hx hb dX7_gameTold_98 rfl (lv_at hl 1 rfl) ?_
              obtain ⟨hi29, h⟩ := gd_s h
              refine aM_I hx hb V 12 13 16 (by decide) rfl rfl hi29 dX7_gameTold_99 ?_
              refine lv_goto (tgt := 148) hx hb dX7_gameTold_100 (by decide) ?_
              obtain rfl := Option.some.inj h
              exact m_iret hx hb hr hlk V (Nat.zero_le _) (Nat.zero_le _) dX7_gameTold_148
          · replace h := ite_t hc22 h
            refine lv_aload_n hx hb dX7_gameTold_74 rfl (lv_at hl 0 rfl) ?_
            refine rM_s hx hb hts hown (fun _ h => List.mem_cons_of_mem _ (List.mem_append_left _ (List.mem_append_right _ h))) V (hts _ (List.mem_of_getElem? (i := 1) rfl)) dX7_gameTold_75 ?_
            refine gM_T hx hb hts hown (fun _ h => List.mem_cons_of_mem _ (List.mem_append_right _ h)) V 14 (by decide) (mN_use (q := (138, "turn", "[I")) Z 21 rfl) (v := .ref (ad 12)) rfl dX7_gameTold_78 ?_
            refine lv_iload_n hx hb dX7_gameTold_81 rfl (lv_at hl 1 rfl) ?_
            obtain ⟨hi30, h⟩ := gd_s h
            refine aM_I hx hb V 11 12 16 (by decide) rfl rfl hi30 dX7_gameTold_82 ?_
            refine lv_goto (tgt := 148) hx hb dX7_gameTold_83 (by decide) ?_
            obtain rfl := Option.some.inj h
            exact m_iret hx hb hr hlk V (Nat.zero_le _) (Nat.zero_le _) dX7_gameTold_148
        · replace h := ite_t hc21 h
          exact w_X7_gameTold_52 Z hB _ _ _ h _ _ _ V (lv_sub hl [0, 1, 2] rfl)
    · replace h := ite_f hc19 h
      refine lv_aload_n hx hb dX7_gameTold_24 rfl (lv_at hl 0 rfl) ?_
      refine rM_s hx hb hts hown (fun _ h => List.mem_cons_of_mem _ (List.mem_append_left _ (List.mem_append_right _ h))) V (hts _ (List.mem_of_getElem? (i := 1) rfl)) dX7_gameTold_25 ?_
      refine gM_T hx hb hts hown (fun _ h => List.mem_cons_of_mem _ (List.mem_append_right _ h)) V 9 (by decide) (mN_use (q := (123, "clock", "[I")) Z 17 rfl) (v := .ref (ad 7)) rfl dX7_gameTold_28 ?_
      refine lv_iconst (v := 2) hx hb dX7_gameTold_31 (by decide) ?_
      refine lv_iload_n hx hb dX7_gameTold_32 rfl (lv_at hl 1 rfl) ?_
      refine lv_imul hx hb dX7_gameTold_33 ?_
      refine lv_iload_n hx hb dX7_gameTold_34 rfl (lv_at hl 2 rfl) ?_
      refine lv_iadd hx hb dX7_gameTold_35 ?_
      refine lv_iconst (v := 2) hx hb dX7_gameTold_36 (by decide) ?_
      refine lv_isub hx hb dX7_gameTold_37 ?_
      obtain ⟨hi31, h⟩ := gd_s h
      refine aM_I hx hb V 6 7 32 (by decide) rfl rfl hi31 dX7_gameTold_38 ?_
      obtain rfl := Option.some.inj h
      exact m_iret hx hb hr hlk V (Nat.zero_le _) (Nat.zero_le _) dX7_gameTold_39
  · replace h := ite_f hc18 h
    refine lv_aload_n hx hb dX7_gameTold_5 rfl (lv_at hl 0 rfl) ?_
    refine rM_s hx hb hts hown (fun _ h => List.mem_cons_of_mem _ (List.mem_append_left _ (List.mem_append_right _ h))) V (hts _ (List.mem_of_getElem? (i := 1) rfl)) dX7_gameTold_6 ?_
    refine gM_T hx hb hts hown (fun _ h => List.mem_cons_of_mem _ (List.mem_append_right _ h)) V 8 (by decide) (mN_use (q := (58, "player", "[I")) Z 7 rfl) (v := .ref (ad 6)) rfl dX7_gameTold_9 ?_
    refine lv_iconst (v := 2) hx hb dX7_gameTold_12 (by decide) ?_
    refine lv_iload_n hx hb dX7_gameTold_13 rfl (lv_at hl 1 rfl) ?_
    refine lv_imul hx hb dX7_gameTold_14 ?_
    refine lv_iload_n hx hb dX7_gameTold_15 rfl (lv_at hl 2 rfl) ?_
    refine lv_iadd hx hb dX7_gameTold_16 ?_
    obtain ⟨hi32, h⟩ := gd_s h
    refine aM_I hx hb V 5 6 32 (by decide) rfl rfl hi32 dX7_gameTold_17 ?_
    obtain rfl := Option.some.inj h
    exact m_iret hx hb hr hlk V (Nat.zero_le _) (Nat.zero_le _) dX7_gameTold_18
-- X7_game
def f_X7_game (N : Nat) (th : Int32) (ρ α : mSt) (a1 : Int32) (a2 : Int32) : Option (Int32 × Int32 × mSt × mSt) := (f_X7_isGame N 0 ρ α a1).bind fun q8 => if q8.1 = 0 then (f_X7_no N q8.2.1 q8.2.2.1 q8.2.2.2 1).bind fun q10 => some (q10.1, q10.2.1, q10.2.2.1, q10.2.2.2) else (f_X7_isIn N q8.2.1 q8.2.2.1 q8.2.2.2 a2 0 10).bind fun q11 => if q11.1 = 0 then (f_X7_no N q11.2.1 q11.2.2.1 q11.2.2.2 1).bind fun q13 => some (q13.1, q13.2.1, q13.2.2.1, q13.2.2.2) else (f_X7_gameTold N q11.2.1 q11.2.2.1 q11.2.2.2 a1 a2).bind fun q14 => some (q14.1, q14.2.1, q14.2.2.1, q14.2.2.2)
set_option maxHeartbeats 4000000 in
set_option maxRecDepth 100000 in
theorem c_X7_game {l : Launch} {D : va_G} {y : Nat → ClassId} {ad : Nat → Nat} {N : Nat} {th : Int32} {ρ α : mSt} {a1 : Int32} {a2 : Int32} {q : Int32 × Int32 × mSt × mSt} (h : f_X7_game N th ρ α a1 a2 = some q) : mC l yX7_game wsX7_game { frames := 2, cells := 0, slots := 0, locals := 43 } D y 43 ad mN (mM y ad th ρ α) [.ref (ad 42), .int a1, .int a2] (some (.int q.1)) (mM y ad q.2.1 q.2.2.1 q.2.2.2) 0 0 := by
  refine m_start (cc := cX7_game) (maxL := 3) (ret := (some .int)) (by decide) rfl (Nat.le_of_ble_eq_true rfl) (fun p e s m args below meth c ls hB _ V Z hl => ?_)
  obtain ⟨hx, hb, hml, hown, hts, hr, hlk⟩ := id hB
  have hl : lv_has ls 3 [(0, .ref (ad 42)), (1, .int a1), (2, .int a2)] := hl
  rw [f_X7_game] at h
  refine lv_aload_n hx hb dX7_game_0 rfl (lv_at hl 0 rfl) ?_
  refine lv_iconst (v := 0) hx hb dX7_game_1 (by decide) ?_
  refine pM_th hx hb hts hown (fun _ h => List.mem_cons_of_mem _ (List.mem_append_left _ (List.mem_append_right _ h))) V (hts _ (List.mem_of_getElem? (i := 1) rfl)) dX7_game_2 (fun H locs V => ?_)
  refine lv_aload_n hx hb dX7_game_5 rfl (lv_at hl 0 rfl) ?_
  refine lv_iload_n hx hb dX7_game_6 rfl (lv_at hl 1 rfl) ?_
  obtain ⟨q8, hq8, h⟩ := bd_s h
  refine kMM (As := [.int a1]) (rest := []) ⟨hx, hb, hml, hown, hts⟩ Z V (c_X7_isGame (l := l) (D := D) (y := y) (ad := ad) hq8) (cwV 1 hts gX7_game_X7_isGame rfl rfl rfl (by decide +kernel) ⟨Nat.le_of_ble_eq_true rfl, Nat.le_of_ble_eq_true rfl⟩) (by omega) (mM_m y ad _ _ _) rfl rfl hl.1 rfl (Nat.le_of_ble_eq_true rfl) ⟨Nat.zero_le _, Nat.zero_le _⟩ rfl dX7_game_7 (fun H locs V => ?_)
  refine lv_if_eq (tgt := 32) hx hb dX7_game_10 (by decide) (fun hc9 => ?_) (fun hc9 => ?_)
  · replace h := ite_t hc9 h
    refine lv_aload_n hx hb dX7_game_32 rfl (lv_at hl 0 rfl) ?_
    refine lv_iconst (v := 1) hx hb dX7_game_33 (by decide) ?_
    obtain ⟨q10, hq10, h⟩ := bd_s h
    refine kMM (As := [.int 1]) (rest := []) ⟨hx, hb, hml, hown, hts⟩ Z V (c_X7_no (l := l) (D := D) (y := y) (ad := ad) hq10) (cwV 1 hts gX7_game_X7_no rfl rfl rfl (by decide +kernel) ⟨Nat.le_of_ble_eq_true rfl, Nat.le_of_ble_eq_true rfl⟩) (by omega) (mM_m y ad _ _ _) rfl rfl hl.1 rfl (Nat.le_of_ble_eq_true rfl) ⟨Nat.zero_le _, Nat.zero_le _⟩ rfl dX7_game_34 (fun H locs V => ?_)
    obtain rfl := Option.some.inj h
    exact m_iret hx hb hr hlk V (Nat.zero_le _) (Nat.zero_le _) dX7_game_37
  · replace h := ite_f hc9 h
    refine lv_iload_n hx hb dX7_game_13 rfl (lv_at hl 2 rfl) ?_
    refine lv_iconst (v := 0) hx hb dX7_game_14 (by decide) ?_
    refine lv_bipush (v := 10) hx hb dX7_game_15 (by decide) ?_
    obtain ⟨q11, hq11, h⟩ := bd_s h
    refine kMMs (As := [.int a2, .int 0, .int 10]) (rest := []) ⟨hx, hb, hml, hown, hts⟩ Z V (c_X7_isIn (l := l) (D := D) (y := y) (ad := ad) hq11) (va_cwS 3 hts gX7_game_X7_isIn rfl rfl rfl (by decide +kernel) ⟨Nat.le_of_ble_eq_true rfl, Nat.le_of_ble_eq_true rfl⟩) rfl hl.1 rfl (Nat.le_of_ble_eq_true rfl) ⟨Nat.zero_le _, Nat.zero_le _⟩ rfl dX7_game_17 (fun H locs V => ?_)
    refine lv_if_eq (tgt := 32) hx hb dX7_game_20 (by decide) (fun hc12 => ?_) (fun hc12 => ?_)
    · replace h := ite_t hc12 h
      refine lv_aload_n hx hb dX7_game_32 rfl (lv_at hl 0 rfl) ?_
      refine lv_iconst (v := 1) hx hb dX7_game_33 (by decide) ?_
      obtain ⟨q13, hq13, h⟩ := bd_s h
      refine kMM (As := [.int 1]) (rest := []) ⟨hx, hb, hml, hown, hts⟩ Z V (c_X7_no (l := l) (D := D) (y := y) (ad := ad) hq13) (cwV 1 hts gX7_game_X7_no rfl rfl rfl (by decide +kernel) ⟨Nat.le_of_ble_eq_true rfl, Nat.le_of_ble_eq_true rfl⟩) (by omega) (mM_m y ad _ _ _) rfl rfl hl.1 rfl (Nat.le_of_ble_eq_true rfl) ⟨Nat.zero_le _, Nat.zero_le _⟩ rfl dX7_game_34 (fun H locs V => ?_)
      obtain rfl := Option.some.inj h
      exact m_iret hx hb hr hlk V (Nat.zero_le _) (Nat.zero_le _) dX7_game_37
    · replace h := ite_f hc12 h
      refine lv_aload_n hx hb dX7_game_23 rfl (lv_at hl 0 rfl) ?_
      refine lv_iload_n hx hb dX7_game_24 rfl (lv_at hl 1 rfl) ?_
      refine lv_iload_n hx hb dX7_game_25 rfl (lv_at hl 2 rfl) ?_
      obtain ⟨q14, hq14, h⟩ := bd_s h
      refine kMM (As := [.int a1, .int a2]) (rest := []) ⟨hx, hb, hml, hown, hts⟩ Z V (c_X7_gameTold (l := l) (D := D) (y := y) (ad := ad) hq14) (cwV 2 hts gX7_game_X7_gameTold rfl rfl rfl (by decide +kernel) ⟨Nat.le_of_ble_eq_true rfl, Nat.le_of_ble_eq_true rfl⟩) (by omega) (mM_m y ad _ _ _) rfl rfl hl.1 rfl (Nat.le_of_ble_eq_true rfl) ⟨Nat.zero_le _, Nat.zero_le _⟩ rfl dX7_game_26 (fun H locs V => ?_)
      refine lv_goto (tgt := 37) hx hb dX7_game_29 (by decide) ?_
      obtain rfl := Option.some.inj h
      exact m_iret hx hb hr hlk V (Nat.zero_le _) (Nat.zero_le _) dX7_game_37
-- X7_pass
def f_X7_pass_47 (N : Nat) (a1 : Int32)  : Nat → Int32 → mSt → mSt → Int32 → Int32 → Option (Int32 × Int32 × mSt × mSt)
  | 0, _, _, _, _, _ => none
  | n + 1, th, ρ, α, v2, v3 => if a1 ≤ v3 then some (v2, th, ρ, α) else (f_X6_pass N ρ).bind fun q9 => f_X7_pass_47 N a1 n th q9.2 α (v2 + q9.1) (v3 + 1)
set_option maxHeartbeats 4000000 in
set_option maxRecDepth 100000 in
theorem w_X7_pass_47 {l : Launch} {D : va_G} {y : Nat → ClassId} {ad : Nat → Nat} {N : Nat} {p : Program} {e : Env} {s : State} {m : MethodId} {args : Array Value} {below : List Frame} {meth : Method} {c : Code} (Z : mN (mFree 43 ad s.heap.size) s) (hB : mBd p s m args meth c cX7_pass 4 wsX7_pass RX7 (some .int)) {a1 : Int32} {q : Int32 × Int32 × mSt × mSt}   : ∀ (n : Nat) (th : Int32) (ρ α : mSt) (v2 : Int32) (v3 : Int32), f_X7_pass_47 N a1  n th ρ α v2 v3 = some q → ∀ (H : Heap) (locs : List Loc) (ls : Array Slot), mV D y (mFree 43 ad s.heap.size) s s.heap H locs 43 ad (mM y ad th ρ α) → lv_has ls 4 [(0, .ref (ad 42)), (1, .int a1), (2, .int v2), (3, .int v3)] → W p l e { frames := 3, cells := 0, slots := 0, locals := 68 } s m args below meth c H locs 0 0 (MQ below (mQ (some (.int q.1)) D 43 ad (mM y ad q.2.1 q.2.2.1 q.2.2.2) s.heap.size) args s 0 0 (mFree 43 ad s.heap.size)) (F0 m 47 ls []) := by
  obtain ⟨hx, hb, hml, hown, hts, hr, hlk⟩ := id hB
  intro n
  induction n with
  | zero =>
    intro th ρ α v2 v3 h
    exact nomatch h
  | succ n ih =>
    intro th ρ α v2 v3 h H locs ls V hl
    rw [f_X7_pass_47] at h
    refine lv_iload_n hx hb dX7_pass_47 rfl (lv_at hl 3 rfl) ?_
    refine lv_iload_n hx hb dX7_pass_48 rfl (lv_at hl 1 rfl) ?_
    refine lv_icmp_ge (tgt := 68) hx hb dX7_pass_49 (by decide) (fun hc8 => ?_) (fun hc8 => ?_)
    · replace h := ite_t hc8 h
      refine lv_iload_n hx hb dX7_pass_68 rfl (lv_at hl 2 rfl) ?_
      obtain rfl := Option.some.inj h
      exact m_iret hx hb hr hlk V (Nat.zero_le _) (Nat.zero_le _) dX7_pass_69
    · replace h := ite_f hc8 h
      refine lv_iload_n hx hb dX7_pass_52 rfl (lv_at hl 2 rfl) ?_
      refine lv_aload_n hx hb dX7_pass_53 rfl (lv_at hl 0 rfl) ?_
      refine rM_s hx hb hts hown (fun _ h => List.mem_cons_of_mem _ (List.mem_append_left _ (List.mem_append_right _ h))) V (hts _ (List.mem_of_getElem? (i := 2) rfl)) dX7_pass_54 ?_
      obtain ⟨q9, hq9, h⟩ := bd_s h
      refine kMR (As := []) (rest := [.int v2]) ⟨hx, hb, hml, hown, hts⟩ V (c_X6_pass (l := l) (D := D) (y := y) (ad := ad) hq9) (cwV 0 hts gX7_pass_X6_pass rfl rfl rfl (by decide +kernel) ⟨Nat.le_of_ble_eq_true rfl, Nat.le_of_ble_eq_true rfl⟩) (by omega) ((mM_0 y ad _ _ _ (by omega)).trans (mR_T y ad _)) rfl rfl hl.1 rfl (Nat.le_of_ble_eq_true rfl) ⟨Nat.zero_le _, Nat.zero_le _⟩ rfl dX7_pass_57 (fun H locs V => ?_)
      refine lv_iadd hx hb dX7_pass_60 ?_
      refine lv_istore_n (lv' := [(2, .int (v2 + q9.1)), (0, .ref (ad 42)), (1, .int a1), (3, .int v3)]) hx hb dX7_pass_61 rfl hl (by decide) rfl (fun ls hl => ?_)
      refine lv_iinc (v := v3 + 1) (lv' := [(3, .int (v3 + 1)), (2, .int (v2 + q9.1)), (0, .ref (ad 42)), (1, .int a1)]) hx hb dX7_pass_62 hl (k := 3) rfl rfl (by decide) rfl (fun ls hl => ?_)
      refine lv_goto (tgt := 47) hx hb dX7_pass_65 (by decide) ?_
      exact ih _ _ _ _ _ h _ _ _ V (lv_sub hl [2, 3, 1, 0] rfl)
def f_X7_pass (N : Nat) (th : Int32) (ρ α : mSt) (a1 : Int32) : Option (Int32 × Int32 × mSt × mSt) := (f_X7_isIn N 0 ρ α a1 1 1200).bind fun q10 => if q10.1 = 0 then (f_X7_no N q10.2.1 q10.2.2.1 q10.2.2.2 1).bind fun q14 => some (q14.1, q14.2.1, q14.2.2.1, q14.2.2.2) else if ((q10.2.2.1 20 0) + a1) ≤ 20000 then f_X7_pass_47 N a1 N q10.2.1 q10.2.2.1 q10.2.2.2 0 0 else (f_X7_no N q10.2.1 q10.2.2.1 q10.2.2.2 2).bind fun q13 => some (q13.1, q13.2.1, q13.2.2.1, q13.2.2.2)
set_option maxHeartbeats 4000000 in
set_option maxRecDepth 100000 in
theorem c_X7_pass {l : Launch} {D : va_G} {y : Nat → ClassId} {ad : Nat → Nat} {N : Nat} {th : Int32} {ρ α : mSt} {a1 : Int32} {q : Int32 × Int32 × mSt × mSt} (h : f_X7_pass N th ρ α a1 = some q) : mC l yX7_pass wsX7_pass { frames := 3, cells := 0, slots := 0, locals := 68 } D y 43 ad mN (mM y ad th ρ α) [.ref (ad 42), .int a1] (some (.int q.1)) (mM y ad q.2.1 q.2.2.1 q.2.2.2) 0 0 := by
  refine m_start (cc := cX7_pass) (maxL := 4) (ret := (some .int)) (by decide) rfl (Nat.le_of_ble_eq_true rfl) (fun p e s m args below meth c ls hB _ V Z hl => ?_)
  obtain ⟨hx, hb, hml, hown, hts, hr, hlk⟩ := id hB
  have hl : lv_has ls 4 [(0, .ref (ad 42)), (1, .int a1)] := hl
  rw [f_X7_pass] at h
  refine lv_aload_n hx hb dX7_pass_0 rfl (lv_at hl 0 rfl) ?_
  refine lv_iconst (v := 0) hx hb dX7_pass_1 (by decide) ?_
  refine pM_th hx hb hts hown (fun _ h => List.mem_cons_of_mem _ (List.mem_append_left _ (List.mem_append_right _ h))) V (hts _ (List.mem_of_getElem? (i := 1) rfl)) dX7_pass_2 (fun H locs V => ?_)
  refine lv_iload_n hx hb dX7_pass_5 rfl (lv_at hl 1 rfl) ?_
  refine lv_iconst (v := 1) hx hb dX7_pass_6 (by decide) ?_
  refine lv_sipush (v := 1200) hx hb dX7_pass_7 (by decide) ?_
  obtain ⟨q10, hq10, h⟩ := bd_s h
  refine kMMs (As := [.int a1, .int 1, .int 1200]) (rest := []) ⟨hx, hb, hml, hown, hts⟩ Z V (c_X7_isIn (l := l) (D := D) (y := y) (ad := ad) hq10) (va_cwS 3 hts gX7_pass_X7_isIn rfl rfl rfl (by decide +kernel) ⟨Nat.le_of_ble_eq_true rfl, Nat.le_of_ble_eq_true rfl⟩) rfl hl.1 rfl (Nat.le_of_ble_eq_true rfl) ⟨Nat.zero_le _, Nat.zero_le _⟩ rfl dX7_pass_10 (fun H locs V => ?_)
  refine lv_if_ne (tgt := 22) hx hb dX7_pass_13 (by decide) (fun hc11 => ?_) (fun hc11 => ?_)
  · replace h := ite_f hc11 h
    refine lv_aload_n hx hb dX7_pass_22 rfl (lv_at hl 0 rfl) ?_
    refine rM_s hx hb hts hown (fun _ h => List.mem_cons_of_mem _ (List.mem_append_left _ (List.mem_append_right _ h))) V (hts _ (List.mem_of_getElem? (i := 2) rfl)) dX7_pass_23 ?_
    refine gM_T hx hb hts hown (fun _ h => List.mem_cons_of_mem _ (List.mem_append_right _ h)) V 0 (by decide) (mN_use (q := (109, "time", "I")) Z 16 rfl) (v := .int (q10.2.2.1 20 0)) rfl dX7_pass_26 ?_
    refine lv_iload_n hx hb dX7_pass_29 rfl (lv_at hl 1 rfl) ?_
    refine lv_iadd hx hb dX7_pass_30 ?_
    refine lv_sipush (v := 20000) hx hb dX7_pass_31 (by decide) ?_
    refine lv_icmp_le (tgt := 43) hx hb dX7_pass_34 (by decide) (fun hc12 => ?_) (fun hc12 => ?_)
    · replace h := ite_t hc12 h
      refine lv_iconst (v := 0) hx hb dX7_pass_43 (by decide) ?_
      refine lv_istore_n (lv' := [(2, .int 0), (0, .ref (ad 42)), (1, .int a1)]) hx hb dX7_pass_44 rfl hl (by decide) rfl (fun ls hl => ?_)
      refine lv_iconst (v := 0) hx hb dX7_pass_45 (by decide) ?_
      refine lv_istore_n (lv' := [(3, .int 0), (2, .int 0), (0, .ref (ad 42)), (1, .int a1)]) hx hb dX7_pass_46 rfl hl (by decide) rfl (fun ls hl => ?_)
      exact w_X7_pass_47 Z hB _ _ _ _ _ _ h _ _ _ V (lv_sub hl [2, 3, 1, 0] rfl)
    · replace h := ite_f hc12 h
      refine lv_aload_n hx hb dX7_pass_37 rfl (lv_at hl 0 rfl) ?_
      refine lv_iconst (v := 2) hx hb dX7_pass_38 (by decide) ?_
      obtain ⟨q13, hq13, h⟩ := bd_s h
      refine kMM (As := [.int 2]) (rest := []) ⟨hx, hb, hml, hown, hts⟩ Z V (c_X7_no (l := l) (D := D) (y := y) (ad := ad) hq13) (cwV 1 hts gX7_pass_X7_no rfl rfl rfl (by decide +kernel) ⟨Nat.le_of_ble_eq_true rfl, Nat.le_of_ble_eq_true rfl⟩) (by omega) (mM_m y ad _ _ _) rfl rfl hl.1 rfl (Nat.le_of_ble_eq_true rfl) ⟨Nat.zero_le _, Nat.zero_le _⟩ rfl dX7_pass_39 (fun H locs V => ?_)
      obtain rfl := Option.some.inj h
      exact m_iret hx hb hr hlk V (Nat.zero_le _) (Nat.zero_le _) dX7_pass_42
  · replace h := ite_t hc11 h
    refine lv_aload_n hx hb dX7_pass_16 rfl (lv_at hl 0 rfl) ?_
    refine lv_iconst (v := 1) hx hb dX7_pass_17 (by decide) ?_
    obtain ⟨q14, hq14, h⟩ := bd_s h
    refine kMM (As := [.int 1]) (rest := []) ⟨hx, hb, hml, hown, hts⟩ Z V (c_X7_no (l := l) (D := D) (y := y) (ad := ad) hq14) (cwV 1 hts gX7_pass_X7_no rfl rfl rfl (by decide +kernel) ⟨Nat.le_of_ble_eq_true rfl, Nat.le_of_ble_eq_true rfl⟩) (by omega) (mM_m y ad _ _ _) rfl rfl hl.1 rfl (Nat.le_of_ble_eq_true rfl) ⟨Nat.zero_le _, Nat.zero_le _⟩ rfl dX7_pass_18 (fun H locs V => ?_)
    obtain rfl := Option.some.inj h
    exact m_iret hx hb hr hlk V (Nat.zero_le _) (Nat.zero_le _) dX7_pass_21
-- X7_counted
def f_X7_counted_49 (N : Nat) (a1 : Int32)  : Nat → Int32 → mSt → mSt → Int32 → Int32 → Int32 → Option (Int32 × Int32 × mSt × mSt)
  | 0, _, _, _, _, _, _ => none
  | n + 1, th, ρ, α, v2, v3, v4 => if (ρ 21 0) ≤ v4 then (f_X7_running N th ρ α (-1)).bind fun q12 => (f_X6_price N q12.2.2.1).bind fun q13 => if mIn a1 11 then some ((upd (upd (upd (upd (upd (upd (upd (upd (upd (upd (upd (fun _ => 0) (0 : Int32).toNatClampNeg (ρ 20 0)) (1 : Int32).toNatClampNeg (ρ 21 0)) (2 : Int32).toNatClampNeg (ρ 22 0)) (3 : Int32).toNatClampNeg q12.1) (4 : Int32).toNatClampNeg (q12.2.2.1 23 0)) (5 : Int32).toNatClampNeg v2) (6 : Int32).toNatClampNeg (q12.2.2.1 24 0)) (7 : Int32).toNatClampNeg (q12.2.2.1 25 0)) (8 : Int32).toNatClampNeg q13.1) (9 : Int32).toNatClampNeg (q13.2 26 0)) (10 : Int32).toNatClampNeg v3) a1.toNatClampNeg, q12.2.1, q13.2, q12.2.2.2) else none else if mIn v4 8 then f_X7_counted_49 N a1 n th ρ α v2 (v3 + (ρ 4 v4.toNatClampNeg)) (v4 + 1) else none
set_option maxHeartbeats 4000000 in
set_option maxRecDepth 100000 in
theorem w_X7_counted_49 {l : Launch} {D : va_G} {y : Nat → ClassId} {ad : Nat → Nat} {N : Nat} {p : Program} {e : Env} {s : State} {m : MethodId} {args : Array Value} {below : List Frame} {meth : Method} {c : Code} (Z : mN (mFree 43 ad s.heap.size) s) (hB : mBd p s m args meth c cX7_counted 5 wsX7_counted RX7 (some .int)) {a1 : Int32} {q : Int32 × Int32 × mSt × mSt}   : ∀ (n : Nat) (th : Int32) (ρ α : mSt) (v2 : Int32) (v3 : Int32) (v4 : Int32), f_X7_counted_49 N a1  n th ρ α v2 v3 v4 = some q → ∀ (H : Heap) (locs : List Loc) (ls : Array Slot), mV D y (mFree 43 ad s.heap.size) s s.heap H locs 43 ad (mM y ad th ρ α) → lv_has ls 5 [(0, .ref (ad 42)), (1, .int a1), (2, .int v2), (3, .int v3), (4, .int v4)] → W p l e { frames := 2, cells := 1, slots := 11, locals := 44 } s m args below meth c H locs 0 0 (MQ below (mQ (some (.int q.1)) D 43 ad (mM y ad q.2.1 q.2.2.1 q.2.2.2) s.heap.size) args s 1 11 (mFree 43 ad s.heap.size)) (F0 m 49 ls []) := by
  obtain ⟨hx, hb, hml, hown, hts, hr, hlk⟩ := id hB
  intro n
  induction n with
  | zero =>
    intro th ρ α v2 v3 v4 h
    exact nomatch h
  | succ n ih =>
    intro th ρ α v2 v3 v4 h H locs ls V hl
    rw [f_X7_counted_49] at h
    refine lv_iload hx hb dX7_counted_49 (lv_at hl 4 rfl) ?_
    refine lv_aload_n hx hb dX7_counted_51 rfl (lv_at hl 0 rfl) ?_
    refine rM_s hx hb hts hown (fun _ h => List.mem_cons_of_mem _ (List.mem_append_left _ (List.mem_append_right _ h))) V (hts _ (List.mem_of_getElem? (i := 1) rfl)) dX7_counted_52 ?_
    refine gM_T hx hb hts hown (fun _ h => List.mem_cons_of_mem _ (List.mem_append_right _ h)) V 1 (by decide) (mN_use (q := (32, "players", "I")) Z 0 rfl) (v := .int (ρ 21 0)) rfl dX7_counted_55 ?_
    refine lv_icmp_ge (tgt := 80) hx hb dX7_counted_58 (by decide) (fun hc10 => ?_) (fun hc10 => ?_)
    · replace h := ite_t hc10 h
      refine lv_bipush (v := 11) hx hb dX7_counted_80 (by decide) ?_
      refine m_newI hx hb (hts _ (List.mem_of_getElem? (i := 2) rfl)) V (z := 11) (Z := 11) (by decide) rfl (by decide) (show 0 + 1 ≤ 1 by omega) (show 0 + 11 ≤ 11 by omega) dX7_counted_82 (fun qt11 H V => ?_)
      refine lv_dup hx hb dX7_counted_84 rfl ?_
      refine lv_iconst (v := 0) hx hb dX7_counted_85 (by decide) ?_
      refine lv_aload_n hx hb dX7_counted_86 rfl (lv_at hl 0 rfl) ?_
      refine rN_s hx hb hts hown (fun _ h => List.mem_cons_of_mem _ (List.mem_append_left _ (List.mem_append_right _ h))) V (hts _ (List.mem_of_getElem? (i := 1) rfl)) dX7_counted_87 ?_
      refine gN_T hx hb hts hown (fun _ h => List.mem_cons_of_mem _ (List.mem_append_right _ h)) V 0 (by decide) (mN_use (q := (109, "time", "I")) Z 16 rfl) (v := .int (ρ 20 0)) rfl dX7_counted_90 ?_
      refine tN_st hx hb V (by decide +kernel) dX7_counted_93 (fun H locs V => ?_)
      refine lv_dup hx hb dX7_counted_94 rfl ?_
      refine lv_iconst (v := 1) hx hb dX7_counted_95 (by decide) ?_
      refine lv_aload_n hx hb dX7_counted_96 rfl (lv_at hl 0 rfl) ?_
      refine rN_s hx hb hts hown (fun _ h => List.mem_cons_of_mem _ (List.mem_append_left _ (List.mem_append_right _ h))) V (hts _ (List.mem_of_getElem? (i := 1) rfl)) dX7_counted_97 ?_
      refine gN_T hx hb hts hown (fun _ h => List.mem_cons_of_mem _ (List.mem_append_right _ h)) V 1 (by decide) (mN_use (q := (32, "players", "I")) Z 0 rfl) (v := .int (ρ 21 0)) rfl dX7_counted_100 ?_
      refine tN_st hx hb V (by decide +kernel) dX7_counted_103 (fun H locs V => ?_)
      refine lv_dup hx hb dX7_counted_104 rfl ?_
      refine lv_iconst (v := 2) hx hb dX7_counted_105 (by decide) ?_
      refine lv_aload_n hx hb dX7_counted_106 rfl (lv_at hl 0 rfl) ?_
      refine rN_s hx hb hts hown (fun _ h => List.mem_cons_of_mem _ (List.mem_append_left _ (List.mem_append_right _ h))) V (hts _ (List.mem_of_getElem? (i := 1) rfl)) dX7_counted_107 ?_
      refine gN_T hx hb hts hown (fun _ h => List.mem_cons_of_mem _ (List.mem_append_right _ h)) V 7 (by decide) (mN_use (q := (51, "games", "I")) Z 6 rfl) (v := .int (ρ 22 0)) rfl dX7_counted_110 ?_
      refine tN_st hx hb V (by decide +kernel) dX7_counted_113 (fun H locs V => ?_)
      refine lv_dup hx hb dX7_counted_114 rfl ?_
      refine lv_iconst (v := 3) hx hb dX7_counted_115 (by decide) ?_
      refine lv_aload_n hx hb dX7_counted_116 rfl (lv_at hl 0 rfl) ?_
      refine lv_iconst (v := (-1)) hx hb dX7_counted_117 (by decide) ?_
      obtain ⟨q12, hq12, h⟩ := bd_s h
      refine kNM (As := [.int (-1)]) (rest := [.int 3, .ref qt11, .ref qt11]) ⟨hx, hb, hml, hown, hts⟩ Z V (c_X7_running (l := l) (D := D) (y := y) (ad := ad) hq12) (cwV 1 hts gX7_counted_X7_running rfl rfl rfl (by decide +kernel) ⟨Nat.le_of_ble_eq_true rfl, Nat.le_of_ble_eq_true rfl⟩) (by omega) ((mMt_c (by omega)).trans (mM_m y ad _ _ _)) rfl rfl hl.1 rfl (Nat.le_of_ble_eq_true rfl) ⟨(show 0 + 1 + 0 ≤ 1 by omega), (show 0 + 11 + 0 ≤ 11 by omega)⟩ rfl dX7_counted_118 (fun H locs V => ?_)
      refine tN_st hx hb V (by decide +kernel) dX7_counted_121 (fun H locs V => ?_)
      refine lv_dup hx hb dX7_counted_122 rfl ?_
      refine lv_iconst (v := 4) hx hb dX7_counted_123 (by decide) ?_
      refine lv_aload_n hx hb dX7_counted_124 rfl (lv_at hl 0 rfl) ?_
      refine rN_s hx hb hts hown (fun _ h => List.mem_cons_of_mem _ (List.mem_append_left _ (List.mem_append_right _ h))) V (hts _ (List.mem_of_getElem? (i := 1) rfl)) dX7_counted_125 ?_
      refine gN_T hx hb hts hown (fun _ h => List.mem_cons_of_mem _ (List.mem_append_right _ h)) V 18 (by decide) (mN_use (q := (39, "loans", "I")) Z 2 rfl) (v := .int (q12.2.2.1 23 0)) rfl dX7_counted_128 ?_
      refine tN_st hx hb V (by decide +kernel) dX7_counted_131 (fun H locs V => ?_)
      refine lv_dup hx hb dX7_counted_132 rfl ?_
      refine lv_iconst (v := 5) hx hb dX7_counted_133 (by decide) ?_
      refine lv_iload_n hx hb dX7_counted_134 rfl (lv_at hl 2 rfl) ?_
      refine tN_st hx hb V (by decide +kernel) dX7_counted_135 (fun H locs V => ?_)
      refine lv_dup hx hb dX7_counted_136 rfl ?_
      refine lv_bipush (v := 6) hx hb dX7_counted_137 (by decide) ?_
      refine lv_aload_n hx hb dX7_counted_139 rfl (lv_at hl 0 rfl) ?_
      refine rN_s hx hb hts hown (fun _ h => List.mem_cons_of_mem _ (List.mem_append_left _ (List.mem_append_right _ h))) V (hts _ (List.mem_of_getElem? (i := 1) rfl)) dX7_counted_140 ?_
      refine gN_T hx hb hts hown (fun _ h => List.mem_cons_of_mem _ (List.mem_append_right _ h)) V 24 (by decide) (mN_use (q := (93, "reserve", "I")) Z 12 rfl) (v := .int (q12.2.2.1 24 0)) rfl dX7_counted_143 ?_
      refine tN_st hx hb V (by decide +kernel) dX7_counted_146 (fun H locs V => ?_)
      refine lv_dup hx hb dX7_counted_147 rfl ?_
      refine lv_bipush (v := 7) hx hb dX7_counted_148 (by decide) ?_
      refine lv_aload_n hx hb dX7_counted_150 rfl (lv_at hl 0 rfl) ?_
      refine rN_s hx hb hts hown (fun _ h => List.mem_cons_of_mem _ (List.mem_append_left _ (List.mem_append_right _ h))) V (hts _ (List.mem_of_getElem? (i := 1) rfl)) dX7_counted_151 ?_
      refine gN_T hx hb hts hown (fun _ h => List.mem_cons_of_mem _ (List.mem_append_right _ h)) V 25 (by decide) (mN_use (q := (96, "bank", "I")) Z 13 rfl) (v := .int (q12.2.2.1 25 0)) rfl dX7_counted_154 ?_
      refine tN_st hx hb V (by decide +kernel) dX7_counted_157 (fun H locs V => ?_)
      refine lv_dup hx hb dX7_counted_158 rfl ?_
      refine lv_bipush (v := 8) hx hb dX7_counted_159 (by decide) ?_
      refine lv_aload_n hx hb dX7_counted_161 rfl (lv_at hl 0 rfl) ?_
      refine rN_s hx hb hts hown (fun _ h => List.mem_cons_of_mem _ (List.mem_append_left _ (List.mem_append_right _ h))) V (hts _ (List.mem_of_getElem? (i := 1) rfl)) dX7_counted_162 ?_
      obtain ⟨q13, hq13, h⟩ := bd_s h
      refine kNR (As := []) (rest := [.int 8, .ref qt11, .ref qt11]) ⟨hx, hb, hml, hown, hts⟩ V (c_X6_price (l := l) (D := D) (y := y) (ad := ad) hq13) (cwV 0 hts gX7_counted_X6_price rfl rfl rfl (by decide +kernel) ⟨Nat.le_of_ble_eq_true rfl, Nat.le_of_ble_eq_true rfl⟩) (by omega) ((mMt_c (by omega)).trans ((mM_0 y ad _ _ _ (by omega)).trans (mR_T y ad _))) rfl rfl hl.1 rfl (Nat.le_of_ble_eq_true rfl) ⟨(show 0 + 1 + 0 + 0 ≤ 1 by omega), (show 0 + 11 + 0 + 0 ≤ 11 by omega)⟩ rfl dX7_counted_165 (fun H locs V => ?_)
      refine tN_st hx hb V (by decide +kernel) dX7_counted_168 (fun H locs V => ?_)
      refine lv_dup hx hb dX7_counted_169 rfl ?_
      refine lv_bipush (v := 9) hx hb dX7_counted_170 (by decide) ?_
      refine lv_aload_n hx hb dX7_counted_172 rfl (lv_at hl 0 rfl) ?_
      refine rN_s hx hb hts hown (fun _ h => List.mem_cons_of_mem _ (List.mem_append_left _ (List.mem_append_right _ h))) V (hts _ (List.mem_of_getElem? (i := 1) rfl)) dX7_counted_173 ?_
      refine gN_T hx hb hts hown (fun _ h => List.mem_cons_of_mem _ (List.mem_append_right _ h)) V 26 (by decide) (mN_use (q := (165, "out", "I")) Z 26 rfl) (v := .int (q13.2 26 0)) rfl dX7_counted_176 ?_
      refine tN_st hx hb V (by decide +kernel) dX7_counted_179 (fun H locs V => ?_)
      refine lv_dup hx hb dX7_counted_180 rfl ?_
      refine lv_bipush (v := 10) hx hb dX7_counted_181 (by decide) ?_
      refine lv_iload_n hx hb dX7_counted_183 rfl (lv_at hl 3 rfl) ?_
      refine tN_st hx hb V (by decide +kernel) dX7_counted_184 (fun H locs V => ?_)
      refine lv_astore (lv' := [(4, .ref qt11), (0, .ref (ad 42)), (1, .int a1), (2, .int v2), (3, .int v3)]) hx hb dX7_counted_185 hl (by decide) rfl (fun ls hl => ?_)
      refine lv_aload hx hb dX7_counted_187 (lv_at hl 0 rfl) ?_
      refine lv_iload_n hx hb dX7_counted_189 rfl (lv_at hl 2 rfl) ?_
      obtain ⟨hi14, h⟩ := gd_s h
      refine tN_ld hx hb V hi14 dX7_counted_190 ?_
      obtain rfl := Option.some.inj h
      exact m_iret hx hb hr hlk (mV_drop V) ((show 0 + 1 + 0 + 0 ≤ 1 by omega)) ((show 0 + 11 + 0 + 0 ≤ 11 by omega)) dX7_counted_191
    · replace h := ite_f hc10 h
      refine lv_iload_n hx hb dX7_counted_61 rfl (lv_at hl 3 rfl) ?_
      refine lv_aload_n hx hb dX7_counted_62 rfl (lv_at hl 0 rfl) ?_
      refine rM_s hx hb hts hown (fun _ h => List.mem_cons_of_mem _ (List.mem_append_left _ (List.mem_append_right _ h))) V (hts _ (List.mem_of_getElem? (i := 1) rfl)) dX7_counted_63 ?_
      refine gM_T hx hb hts hown (fun _ h => List.mem_cons_of_mem _ (List.mem_append_right _ h)) V 6 (by decide) (mN_use (q := (80, "caught", "[I")) Z 11 rfl) (v := .ref (ad 5)) rfl dX7_counted_66 ?_
      refine lv_iload hx hb dX7_counted_69 (lv_at hl 4 rfl) ?_
      obtain ⟨hi15, h⟩ := gd_s h
      refine aM_I hx hb V 4 5 8 (by decide) rfl rfl hi15 dX7_counted_71 ?_
      refine lv_iadd hx hb dX7_counted_72 ?_
      refine lv_istore_n (lv' := [(3, .int (v3 + (ρ 4 v4.toNatClampNeg))), (0, .ref (ad 42)), (1, .int a1), (2, .int v2), (4, .int v4)]) hx hb dX7_counted_73 rfl hl (by decide) rfl (fun ls hl => ?_)
      refine lv_iinc (v := v4 + 1) (lv' := [(4, .int (v4 + 1)), (3, .int (v3 + (ρ 4 v4.toNatClampNeg))), (0, .ref (ad 42)), (1, .int a1), (2, .int v2)]) hx hb dX7_counted_74 hl (k := 4) rfl rfl (by decide) rfl (fun ls hl => ?_)
      refine lv_goto (tgt := 49) hx hb dX7_counted_77 (by decide) ?_
      exact ih _ _ _ _ _ _ h _ _ _ V (lv_sub hl [2, 3, 4, 1, 0] rfl)
def f_X7_counted_38 (N : Nat) (a1 : Int32) (rec7 : Int32 → mSt → mSt → Int32 → Int32 → Option (Int32 × Int32 × mSt × mSt)) (th : Int32) (ρ α : mSt) (v4 : Int32) (s0 : Int32) (s1 : Int32) : Option (Int32 × Int32 × mSt × mSt) := rec7 th ρ α (s0 + s1) (v4 + 1)
set_option maxHeartbeats 4000000 in
set_option maxRecDepth 100000 in
theorem w_X7_counted_38 {l : Launch} {D : va_G} {y : Nat → ClassId} {ad : Nat → Nat} {N : Nat} {p : Program} {e : Env} {s : State} {m : MethodId} {args : Array Value} {below : List Frame} {meth : Method} {c : Code} (Z : mN (mFree 43 ad s.heap.size) s) (hB : mBd p s m args meth c cX7_counted 5 wsX7_counted RX7 (some .int)) {a1 : Int32} {q : Int32 × Int32 × mSt × mSt} {rec7 : Int32 → mSt → mSt → Int32 → Int32 → Option (Int32 × Int32 × mSt × mSt)} (hrec7 : ∀ (th : Int32) (ρ α : mSt) (v2 : Int32) (v4 : Int32), rec7 th ρ α v2 v4 = some q → ∀ (H : Heap) (locs : List Loc) (ls : Array Slot), mV D y (mFree 43 ad s.heap.size) s s.heap H locs 43 ad (mM y ad th ρ α) → lv_has ls 5 [(0, .ref (ad 42)), (1, .int a1), (2, .int v2), (3, .int 0), (4, .int v4)] → W p l e { frames := 2, cells := 1, slots := 11, locals := 44 } s m args below meth c H locs 0 0 (MQ below (mQ (some (.int q.1)) D 43 ad (mM y ad q.2.1 q.2.2.1 q.2.2.2) s.heap.size) args s 1 11 (mFree 43 ad s.heap.size)) (F0 m 7 ls [])) : ∀ (th : Int32) (ρ α : mSt) (v4 : Int32) (s0 : Int32) (s1 : Int32), f_X7_counted_38 N a1 rec7 th ρ α v4 s0 s1 = some q → ∀ (H : Heap) (locs : List Loc) (ls : Array Slot), mV D y (mFree 43 ad s.heap.size) s s.heap H locs 43 ad (mM y ad th ρ α) → lv_has ls 5 [(0, .ref (ad 42)), (1, .int a1), (3, .int 0), (4, .int v4)] → W p l e { frames := 2, cells := 1, slots := 11, locals := 44 } s m args below meth c H locs 0 0 (MQ below (mQ (some (.int q.1)) D 43 ad (mM y ad q.2.1 q.2.2.1 q.2.2.2) s.heap.size) args s 1 11 (mFree 43 ad s.heap.size)) (F0 m 38 ls [.int s1, .int s0]) := by
  obtain ⟨hx, hb, hml, hown, hts, hr, hlk⟩ := id hB
  intro th ρ α v4 s0 s1 h H locs ls V hl
  rw [f_X7_counted_38] at h
  refine lv_iadd hx hb dX7_counted_38 ?_
  refine lv_istore_n (lv' := [(2, .int (s0 + s1)), (0, .ref (ad 42)), (1, .int a1), (3, .int 0), (4, .int v4)]) hx hb dX7_counted_39 rfl hl (by decide) rfl (fun ls hl => ?_)
  refine lv_iinc (v := v4 + 1) (lv' := [(4, .int (v4 + 1)), (2, .int (s0 + s1)), (0, .ref (ad 42)), (1, .int a1), (3, .int 0)]) hx hb dX7_counted_40 hl (k := 4) rfl rfl (by decide) rfl (fun ls hl => ?_)
  refine lv_goto (tgt := 7) hx hb dX7_counted_43 (by decide) ?_
  exact hrec7 _ _ _ _ _ h _ _ _ V (lv_sub hl [2, 3, 1, 4, 0] rfl)
def f_X7_counted_7 (N : Nat) (a1 : Int32)  : Nat → Int32 → mSt → mSt → Int32 → Int32 → Option (Int32 × Int32 × mSt × mSt)
  | 0, _, _, _, _, _ => none
  | n + 1, th, ρ, α, v2, v4 => if (ρ 23 0) ≤ v4 then f_X7_counted_49 N a1 N th ρ α v2 0 0 else if mIn v4 20 then if (ρ 19 v4.toNatClampNeg) = 0 then f_X7_counted_38 N a1 (fun th ρ α v2 v4 => f_X7_counted_7 N a1 n th ρ α v2 v4) th ρ α v4 v2 1 else f_X7_counted_38 N a1 (fun th ρ α v2 v4 => f_X7_counted_7 N a1 n th ρ α v2 v4) th ρ α v4 v2 0 else none
set_option maxHeartbeats 4000000 in
set_option maxRecDepth 100000 in
theorem w_X7_counted_7 {l : Launch} {D : va_G} {y : Nat → ClassId} {ad : Nat → Nat} {N : Nat} {p : Program} {e : Env} {s : State} {m : MethodId} {args : Array Value} {below : List Frame} {meth : Method} {c : Code} (Z : mN (mFree 43 ad s.heap.size) s) (hB : mBd p s m args meth c cX7_counted 5 wsX7_counted RX7 (some .int)) {a1 : Int32} {q : Int32 × Int32 × mSt × mSt}   : ∀ (n : Nat) (th : Int32) (ρ α : mSt) (v2 : Int32) (v4 : Int32), f_X7_counted_7 N a1  n th ρ α v2 v4 = some q → ∀ (H : Heap) (locs : List Loc) (ls : Array Slot), mV D y (mFree 43 ad s.heap.size) s s.heap H locs 43 ad (mM y ad th ρ α) → lv_has ls 5 [(0, .ref (ad 42)), (1, .int a1), (2, .int v2), (3, .int 0), (4, .int v4)] → W p l e { frames := 2, cells := 1, slots := 11, locals := 44 } s m args below meth c H locs 0 0 (MQ below (mQ (some (.int q.1)) D 43 ad (mM y ad q.2.1 q.2.2.1 q.2.2.2) s.heap.size) args s 1 11 (mFree 43 ad s.heap.size)) (F0 m 7 ls []) := by
  obtain ⟨hx, hb, hml, hown, hts, hr, hlk⟩ := id hB
  intro n
  induction n with
  | zero =>
    intro th ρ α v2 v4 h
    exact nomatch h
  | succ n ih =>
    intro th ρ α v2 v4 h H locs ls V hl
    rw [f_X7_counted_7] at h
    refine lv_iload hx hb dX7_counted_7 (lv_at hl 4 rfl) ?_
    refine lv_aload_n hx hb dX7_counted_9 rfl (lv_at hl 0 rfl) ?_
    refine rM_s hx hb hts hown (fun _ h => List.mem_cons_of_mem _ (List.mem_append_left _ (List.mem_append_right _ h))) V (hts _ (List.mem_of_getElem? (i := 1) rfl)) dX7_counted_10 ?_
    refine gM_T hx hb hts hown (fun _ h => List.mem_cons_of_mem _ (List.mem_append_right _ h)) V 18 (by decide) (mN_use (q := (39, "loans", "I")) Z 2 rfl) (v := .int (ρ 23 0)) rfl dX7_counted_13 ?_
    refine lv_icmp_ge (tgt := 46) hx hb dX7_counted_16 (by decide) (fun hc16 => ?_) (fun hc16 => ?_)
    · replace h := ite_t hc16 h
      refine lv_iconst (v := 0) hx hb dX7_counted_46 (by decide) ?_
      refine lv_istore (lv' := [(4, .int 0), (0, .ref (ad 42)), (1, .int a1), (2, .int v2), (3, .int 0)]) hx hb dX7_counted_47 hl (by decide) rfl (fun ls hl => ?_)
      exact w_X7_counted_49 Z hB _ _ _ _ _ _ _ h _ _ _ V (lv_sub hl [1, 2, 3, 4, 0] rfl)
    · replace h := ite_f hc16 h
      refine lv_iload_n hx hb dX7_counted_19 rfl (lv_at hl 2 rfl) ?_
      refine lv_aload_n hx hb dX7_counted_20 rfl (lv_at hl 0 rfl) ?_
      refine rM_s hx hb hts hown (fun _ h => List.mem_cons_of_mem _ (List.mem_append_left _ (List.mem_append_right _ h))) V (hts _ (List.mem_of_getElem? (i := 1) rfl)) dX7_counted_21 ?_
      refine gM_T hx hb hts hown (fun _ h => List.mem_cons_of_mem _ (List.mem_append_right _ h)) V 23 (by decide) (mN_use (q := (45, "kind", "[I")) Z 4 rfl) (v := .ref (ad 20)) rfl dX7_counted_24 ?_
      refine lv_iload hx hb dX7_counted_27 (lv_at hl 4 rfl) ?_
      obtain ⟨hi17, h⟩ := gd_s h
      refine aM_I hx hb V 19 20 20 (by decide) rfl rfl hi17 dX7_counted_29 ?_
      refine lv_if_ne (tgt := 37) hx hb dX7_counted_30 (by decide) (fun hc18 => ?_) (fun hc18 => ?_)
      · replace h := ite_f hc18 h
        refine lv_iconst (v := 0) hx hb dX7_counted_37 (by decide) ?_
        exact w_X7_counted_38 Z hB ih _ _ _ _ _ _ h _ _ _ V (lv_sub hl [0, 1, 3, 4] rfl)
      · replace h := ite_t hc18 h
        refine lv_iconst (v := 1) hx hb dX7_counted_33 (by decide) ?_
        refine lv_goto (tgt := 38) hx hb dX7_counted_34 (by decide) ?_
        exact w_X7_counted_38 Z hB ih _ _ _ _ _ _ h _ _ _ V (lv_sub hl [0, 1, 3, 4] rfl)
def f_X7_counted (N : Nat) (th : Int32) (ρ α : mSt) (a1 : Int32) : Option (Int32 × Int32 × mSt × mSt) := f_X7_counted_7 N a1 N th ρ α 0 0
set_option maxHeartbeats 4000000 in
set_option maxRecDepth 100000 in
theorem c_X7_counted {l : Launch} {D : va_G} {y : Nat → ClassId} {ad : Nat → Nat} {N : Nat} {th : Int32} {ρ α : mSt} {a1 : Int32} {q : Int32 × Int32 × mSt × mSt} (h : f_X7_counted N th ρ α a1 = some q) : mC l yX7_counted wsX7_counted { frames := 2, cells := 1, slots := 11, locals := 44 } D y 43 ad mN (mM y ad th ρ α) [.ref (ad 42), .int a1] (some (.int q.1)) (mM y ad q.2.1 q.2.2.1 q.2.2.2) 1 11 := by
  refine m_start (cc := cX7_counted) (maxL := 5) (ret := (some .int)) (by decide) rfl (Nat.le_of_ble_eq_true rfl) (fun p e s m args below meth c ls hB _ V Z hl => ?_)
  obtain ⟨hx, hb, hml, hown, hts, hr, hlk⟩ := id hB
  have hl : lv_has ls 5 [(0, .ref (ad 42)), (1, .int a1)] := hl
  rw [f_X7_counted] at h
  refine lv_iconst (v := 0) hx hb dX7_counted_0 (by decide) ?_
  refine lv_istore_n (lv' := [(2, .int 0), (0, .ref (ad 42)), (1, .int a1)]) hx hb dX7_counted_1 rfl hl (by decide) rfl (fun ls hl => ?_)
  refine lv_iconst (v := 0) hx hb dX7_counted_2 (by decide) ?_
  refine lv_istore_n (lv' := [(3, .int 0), (2, .int 0), (0, .ref (ad 42)), (1, .int a1)]) hx hb dX7_counted_3 rfl hl (by decide) rfl (fun ls hl => ?_)
  refine lv_iconst (v := 0) hx hb dX7_counted_4 (by decide) ?_
  refine lv_istore (lv' := [(4, .int 0), (3, .int 0), (2, .int 0), (0, .ref (ad 42)), (1, .int a1)]) hx hb dX7_counted_5 hl (by decide) rfl (fun ls hl => ?_)
  exact w_X7_counted_7 Z hB _ _ _ _ _ _ h _ _ _ V (lv_sub hl [3, 4, 2, 1, 0] rfl)
-- X7_count
def f_X7_count (N : Nat) (th : Int32) (ρ α : mSt) (a1 : Int32) : Option (Int32 × Int32 × mSt × mSt) := (f_X7_isIn N 0 ρ α a1 0 10).bind fun q5 => if q5.1 = 0 then (f_X7_no N q5.2.1 q5.2.2.1 q5.2.2.2 1).bind fun q7 => some (q7.1, q7.2.1, q7.2.2.1, q7.2.2.2) else (f_X7_counted N q5.2.1 q5.2.2.1 q5.2.2.2 a1).bind fun q8 => some (q8.1, q8.2.1, q8.2.2.1, q8.2.2.2)
set_option maxHeartbeats 4000000 in
set_option maxRecDepth 100000 in
theorem c_X7_count {l : Launch} {D : va_G} {y : Nat → ClassId} {ad : Nat → Nat} {N : Nat} {th : Int32} {ρ α : mSt} {a1 : Int32} {q : Int32 × Int32 × mSt × mSt} (h : f_X7_count N th ρ α a1 = some q) : mC l yX7_count wsX7_count { frames := 3, cells := 1, slots := 11, locals := 68 } D y 43 ad mN (mM y ad th ρ α) [.ref (ad 42), .int a1] (some (.int q.1)) (mM y ad q.2.1 q.2.2.1 q.2.2.2) 1 11 := by
  refine m_start (cc := cX7_count) (maxL := 2) (ret := (some .int)) (by decide) rfl (Nat.le_of_ble_eq_true rfl) (fun p e s m args below meth c ls hB _ V Z hl => ?_)
  obtain ⟨hx, hb, hml, hown, hts, hr, hlk⟩ := id hB
  have hl : lv_has ls 2 [(0, .ref (ad 42)), (1, .int a1)] := hl
  rw [f_X7_count] at h
  refine lv_aload_n hx hb dX7_count_0 rfl (lv_at hl 0 rfl) ?_
  refine lv_iconst (v := 0) hx hb dX7_count_1 (by decide) ?_
  refine pM_th hx hb hts hown (fun _ h => List.mem_cons_of_mem _ (List.mem_append_left _ (List.mem_append_right _ h))) V (hts _ (List.mem_of_getElem? (i := 1) rfl)) dX7_count_2 (fun H locs V => ?_)
  refine lv_iload_n hx hb dX7_count_5 rfl (lv_at hl 1 rfl) ?_
  refine lv_iconst (v := 0) hx hb dX7_count_6 (by decide) ?_
  refine lv_bipush (v := 10) hx hb dX7_count_7 (by decide) ?_
  obtain ⟨q5, hq5, h⟩ := bd_s h
  refine kMMs (As := [.int a1, .int 0, .int 10]) (rest := []) ⟨hx, hb, hml, hown, hts⟩ Z V (c_X7_isIn (l := l) (D := D) (y := y) (ad := ad) hq5) (va_cwS 3 hts gX7_count_X7_isIn rfl rfl rfl (by decide +kernel) ⟨Nat.le_of_ble_eq_true rfl, Nat.le_of_ble_eq_true rfl⟩) rfl hl.1 rfl (Nat.le_of_ble_eq_true rfl) ⟨(show 0 + 0 ≤ 1 by omega), (show 0 + 0 ≤ 11 by omega)⟩ rfl dX7_count_9 (fun H locs V => ?_)
  refine lv_if_eq (tgt := 23) hx hb dX7_count_12 (by decide) (fun hc6 => ?_) (fun hc6 => ?_)
  · replace h := ite_t hc6 h
    refine lv_aload_n hx hb dX7_count_23 rfl (lv_at hl 0 rfl) ?_
    refine lv_iconst (v := 1) hx hb dX7_count_24 (by decide) ?_
    obtain ⟨q7, hq7, h⟩ := bd_s h
    refine kMM (As := [.int 1]) (rest := []) ⟨hx, hb, hml, hown, hts⟩ Z V (c_X7_no (l := l) (D := D) (y := y) (ad := ad) hq7) (cwV 1 hts gX7_count_X7_no rfl rfl rfl (by decide +kernel) ⟨Nat.le_of_ble_eq_true rfl, Nat.le_of_ble_eq_true rfl⟩) (by omega) (mM_m y ad _ _ _) rfl rfl hl.1 rfl (Nat.le_of_ble_eq_true rfl) ⟨(show 0 + 0 + 0 ≤ 1 by omega), (show 0 + 0 + 0 ≤ 11 by omega)⟩ rfl dX7_count_25 (fun H locs V => ?_)
    obtain rfl := Option.some.inj h
    exact m_iret hx hb hr hlk V ((show 0 + 0 + 0 ≤ 1 by omega)) ((show 0 + 0 + 0 ≤ 11 by omega)) dX7_count_28
  · replace h := ite_f hc6 h
    refine lv_aload_n hx hb dX7_count_15 rfl (lv_at hl 0 rfl) ?_
    refine lv_iload_n hx hb dX7_count_16 rfl (lv_at hl 1 rfl) ?_
    obtain ⟨q8, hq8, h⟩ := bd_s h
    refine kMM (As := [.int a1]) (rest := []) ⟨hx, hb, hml, hown, hts⟩ Z V (c_X7_counted (l := l) (D := D) (y := y) (ad := ad) hq8) (cwV 1 hts gX7_count_X7_counted rfl rfl rfl (by decide +kernel) ⟨Nat.le_of_ble_eq_true rfl, Nat.le_of_ble_eq_true rfl⟩) (by omega) (mM_m y ad _ _ _) rfl rfl hl.1 rfl (Nat.le_of_ble_eq_true rfl) ⟨(show 0 + 0 + 1 ≤ 1 by omega), (show 0 + 0 + 11 ≤ 11 by omega)⟩ rfl dX7_count_17 (fun H locs V => ?_)
    refine lv_goto (tgt := 28) hx hb dX7_count_20 (by decide) ?_
    obtain rfl := Option.some.inj h
    exact m_iret hx hb hr hlk V ((show 0 + 0 + 1 ≤ 1 by omega)) ((show 0 + 0 + 11 ≤ 11 by omega)) dX7_count_28
-- X7_foresee
def f_X7_foresee_131 (N : Nat) (a1 : Int32) (a2 : Int32) (rec80 : Int32 → mSt → mSt → Int32 → Int32 → Int32 → Int32 → Option (Int32 × Int32 × mSt × mSt)) : Nat → Int32 → mSt → mSt → Int32 → Int32 → Int32 → Int32 → Int32 → Option (Int32 × Int32 × mSt × mSt)
  | 0, _, _, _, _, _, _, _, _ => none
  | n + 1, th, ρ, α, v3, v4, v5, v6, v7 => if v7 < 0 then rec80 th ρ α v3 v4 v5 (v6 + 1) else (f_X6_runs N ρ v7).bind fun q25 => if q25.1 = 0 then f_X7_foresee_131 N a1 a2 rec80 n th q25.2 α v3 v4 v5 v6 (v7 + (-1)) else (f_X6_runs N α v7).bind fun q27 => if q27.1 = 0 then f_X7_foresee_131 N a1 a2 rec80 n th q25.2 q27.2 v7 v4 v5 v6 (v7 + (-1)) else f_X7_foresee_131 N a1 a2 rec80 n th q25.2 q27.2 v3 v4 v5 v6 (v7 + (-1))
set_option maxHeartbeats 4000000 in
set_option maxRecDepth 100000 in
theorem w_X7_foresee_131 {l : Launch} {D : va_G} {y : Nat → ClassId} {ad : Nat → Nat} {N : Nat} {p : Program} {e : Env} {s : State} {m : MethodId} {args : Array Value} {below : List Frame} {meth : Method} {c : Code} (Z : mN (mFree 43 ad s.heap.size) s) (hB : mBd p s m args meth c cX7_foresee 8 wsX7_foresee RX7 (some .int)) {a1 : Int32} {a2 : Int32} {q : Int32 × Int32 × mSt × mSt} {rec80 : Int32 → mSt → mSt → Int32 → Int32 → Int32 → Int32 → Option (Int32 × Int32 × mSt × mSt)} (hrec80 : ∀ (th : Int32) (ρ α : mSt) (v3 : Int32) (v4 : Int32) (v5 : Int32) (v6 : Int32), rec80 th ρ α v3 v4 v5 v6 = some q → ∀ (H : Heap) (locs : List Loc) (ls : Array Slot), mV D y (mFree 43 ad s.heap.size) s s.heap H locs 43 ad (mM y ad th ρ α) → lv_has ls 8 [(0, .ref (ad 42)), (1, .int a1), (2, .int a2), (3, .int v3), (4, .int v4), (5, .int v5), (6, .int v6)] → W p l e { frames := 3, cells := 0, slots := 0, locals := 68 } s m args below meth c H locs 0 0 (MQ below (mQ (some (.int q.1)) D 43 ad (mM y ad q.2.1 q.2.2.1 q.2.2.2) s.heap.size) args s 0 0 (mFree 43 ad s.heap.size)) (F0 m 80 ls [])) : ∀ (n : Nat) (th : Int32) (ρ α : mSt) (v3 : Int32) (v4 : Int32) (v5 : Int32) (v6 : Int32) (v7 : Int32), f_X7_foresee_131 N a1 a2 rec80 n th ρ α v3 v4 v5 v6 v7 = some q → ∀ (H : Heap) (locs : List Loc) (ls : Array Slot), mV D y (mFree 43 ad s.heap.size) s s.heap H locs 43 ad (mM y ad th ρ α) → lv_has ls 8 [(0, .ref (ad 42)), (1, .int a1), (2, .int a2), (3, .int v3), (4, .int v4), (5, .int v5), (6, .int v6), (7, .int v7)] → W p l e { frames := 3, cells := 0, slots := 0, locals := 68 } s m args below meth c H locs 0 0 (MQ below (mQ (some (.int q.1)) D 43 ad (mM y ad q.2.1 q.2.2.1 q.2.2.2) s.heap.size) args s 0 0 (mFree 43 ad s.heap.size)) (F0 m 131 ls []) := by
  obtain ⟨hx, hb, hml, hown, hts, hr, hlk⟩ := id hB
  intro n
  induction n with
  | zero =>
    intro th ρ α v3 v4 v5 v6 v7 h
    exact nomatch h
  | succ n ih =>
    intro th ρ α v3 v4 v5 v6 v7 h H locs ls V hl
    rw [f_X7_foresee_131] at h
    refine lv_iload hx hb dX7_foresee_131 (lv_at hl 7 rfl) ?_
    refine lv_if_lt (tgt := 169) hx hb dX7_foresee_133 (by decide) (fun hc24 => ?_) (fun hc24 => ?_)
    · replace h := ite_t hc24 h
      refine lv_iinc (v := v6 + 1) (lv' := [(6, .int (v6 + 1)), (0, .ref (ad 42)), (1, .int a1), (2, .int a2), (3, .int v3), (4, .int v4), (5, .int v5), (7, .int v7)]) hx hb dX7_foresee_169 hl (k := 6) rfl rfl (by decide) rfl (fun ls hl => ?_)
      refine lv_goto (tgt := 80) hx hb dX7_foresee_172 (by decide) ?_
      exact hrec80 _ _ _ _ _ _ _ h _ _ _ V (lv_sub hl [1, 2, 3, 4, 5, 6, 0] rfl)
    · replace h := ite_f hc24 h
      refine lv_aload_n hx hb dX7_foresee_136 rfl (lv_at hl 0 rfl) ?_
      refine rM_s hx hb hts hown (fun _ h => List.mem_cons_of_mem _ (List.mem_append_left _ (List.mem_append_right _ h))) V (hts _ (List.mem_of_getElem? (i := 2) rfl)) dX7_foresee_137 ?_
      refine lv_iload hx hb dX7_foresee_140 (lv_at hl 7 rfl) ?_
      obtain ⟨q25, hq25, h⟩ := bd_s h
      refine kMR (As := [.int v7]) (rest := []) ⟨hx, hb, hml, hown, hts⟩ V (c_X6_runs (l := l) (D := D) (y := y) (ad := ad) hq25) (cwV 1 hts gX7_foresee_X6_runs rfl rfl rfl (by decide +kernel) ⟨Nat.le_of_ble_eq_true rfl, Nat.le_of_ble_eq_true rfl⟩) (by omega) ((mM_0 y ad _ _ _ (by omega)).trans (mR_T y ad _)) rfl rfl hl.1 rfl (Nat.le_of_ble_eq_true rfl) ⟨Nat.zero_le _, Nat.zero_le _⟩ rfl dX7_foresee_142 (fun H locs V => ?_)
      refine lv_if_eq (tgt := 163) hx hb dX7_foresee_145 (by decide) (fun hc26 => ?_) (fun hc26 => ?_)
      · replace h := ite_t hc26 h
        refine lv_iinc (v := v7 + (-1)) (lv' := [(7, .int (v7 + (-1))), (0, .ref (ad 42)), (1, .int a1), (2, .int a2), (3, .int v3), (4, .int v4), (5, .int v5), (6, .int v6)]) hx hb dX7_foresee_163 hl (k := 7) rfl rfl (by decide) rfl (fun ls hl => ?_)
        refine lv_goto (tgt := 131) hx hb dX7_foresee_166 (by decide) ?_
        exact ih _ _ _ _ _ _ _ _ h _ _ _ V (lv_sub hl [1, 2, 3, 4, 5, 6, 7, 0] rfl)
      · replace h := ite_f hc26 h
        refine lv_aload_n hx hb dX7_foresee_148 rfl (lv_at hl 0 rfl) ?_
        refine rM_ahead hx hb hts hown (fun _ h => List.mem_cons_of_mem _ (List.mem_append_left _ (List.mem_append_right _ h))) V (hts _ (List.mem_of_getElem? (i := 3) rfl)) dX7_foresee_149 ?_
        refine lv_iload hx hb dX7_foresee_152 (lv_at hl 7 rfl) ?_
        obtain ⟨q27, hq27, h⟩ := bd_s h
        refine kOR (As := [.int v7]) (rest := []) ⟨hx, hb, hml, hown, hts⟩ V (c_X6_runs (l := l) (D := D) (y := y) (ad := fun k => ad (21 + k)) hq27) (cwV 1 hts gX7_foresee_X6_runs rfl rfl rfl (by decide +kernel) ⟨Nat.le_of_ble_eq_true rfl, Nat.le_of_ble_eq_true rfl⟩) (by omega) ((mM_1 y ad _ _ _ (by omega)).trans (mR_T y (fun k => ad (21 + k)) _)) rfl rfl hl.1 rfl (Nat.le_of_ble_eq_true rfl) ⟨Nat.zero_le _, Nat.zero_le _⟩ rfl dX7_foresee_154 (fun H locs V => ?_)
        refine lv_if_ne (tgt := 163) hx hb dX7_foresee_157 (by decide) (fun hc28 => ?_) (fun hc28 => ?_)
        · replace h := ite_f hc28 h
          refine lv_iinc (v := v7 + (-1)) (lv' := [(7, .int (v7 + (-1))), (0, .ref (ad 42)), (1, .int a1), (2, .int a2), (3, .int v3), (4, .int v4), (5, .int v5), (6, .int v6)]) hx hb dX7_foresee_163 hl (k := 7) rfl rfl (by decide) rfl (fun ls hl => ?_)
          refine lv_goto (tgt := 131) hx hb dX7_foresee_166 (by decide) ?_
          exact ih _ _ _ _ _ _ _ _ h _ _ _ V (lv_sub hl [1, 2, 3, 4, 5, 6, 7, 0] rfl)
        · replace h := ite_t hc28 h
          refine lv_iload hx hb dX7_foresee_160 (lv_at hl 7 rfl) ?_
          refine lv_istore_n (lv' := [(3, .int v7), (0, .ref (ad 42)), (1, .int a1), (2, .int a2), (4, .int v4), (5, .int v5), (6, .int v6), (7, .int v7)]) hx hb dX7_foresee_162 rfl hl (by decide) rfl (fun ls hl => ?_)
          refine lv_iinc (v := v7 + (-1)) (lv' := [(7, .int (v7 + (-1))), (3, .int v7), (0, .ref (ad 42)), (1, .int a1), (2, .int a2), (4, .int v4), (5, .int v5), (6, .int v6)]) hx hb dX7_foresee_163 hl (k := 7) rfl rfl (by decide) rfl (fun ls hl => ?_)
          refine lv_goto (tgt := 131) hx hb dX7_foresee_166 (by decide) ?_
          exact ih _ _ _ _ _ _ _ _ h _ _ _ V (lv_sub hl [2, 3, 4, 1, 5, 6, 7, 0] rfl)
def f_X7_foresee_80 (N : Nat) (a1 : Int32) (a2 : Int32)  : Nat → Int32 → mSt → mSt → Int32 → Int32 → Int32 → Int32 → Option (Int32 × Int32 × mSt × mSt)
  | 0, _, _, _, _, _, _, _ => none
  | n + 1, th, ρ, α, v3, v4, v5, v6 => if a1 ≤ v6 then if a2 = 0 then some (v3, th, ρ, α) else if a2 = 1 then some (v4, th, ρ, α) else if a2 = 2 then some (v5, th, ρ, α) else (f_X6_bad N α).bind fun q33 => (f_X6_bad N ρ).bind fun q34 => some (q33.1 - q34.1, th, q34.2, q33.2) else (f_X6_pass N α).bind fun q35 => if (v5 + q35.1) = 0 then f_X7_foresee_80 N a1 a2 n th ρ q35.2 v3 v4 (v5 + q35.1) (v6 + 1) else if v3 = (-1) then f_X7_foresee_131 N a1 a2 (fun th ρ α v3 v4 v5 v6 => f_X7_foresee_80 N a1 a2 n th ρ α v3 v4 v5 v6) N th ρ q35.2 v3 (q35.2 20 0) (v5 + q35.1) v6 ((ρ 22 0) - 1) else f_X7_foresee_80 N a1 a2 n th ρ q35.2 v3 v4 (v5 + q35.1) (v6 + 1)
set_option maxHeartbeats 4000000 in
set_option maxRecDepth 100000 in
theorem w_X7_foresee_80 {l : Launch} {D : va_G} {y : Nat → ClassId} {ad : Nat → Nat} {N : Nat} {p : Program} {e : Env} {s : State} {m : MethodId} {args : Array Value} {below : List Frame} {meth : Method} {c : Code} (Z : mN (mFree 43 ad s.heap.size) s) (hB : mBd p s m args meth c cX7_foresee 8 wsX7_foresee RX7 (some .int)) {a1 : Int32} {a2 : Int32} {q : Int32 × Int32 × mSt × mSt}   : ∀ (n : Nat) (th : Int32) (ρ α : mSt) (v3 : Int32) (v4 : Int32) (v5 : Int32) (v6 : Int32), f_X7_foresee_80 N a1 a2  n th ρ α v3 v4 v5 v6 = some q → ∀ (H : Heap) (locs : List Loc) (ls : Array Slot), mV D y (mFree 43 ad s.heap.size) s s.heap H locs 43 ad (mM y ad th ρ α) → lv_has ls 8 [(0, .ref (ad 42)), (1, .int a1), (2, .int a2), (3, .int v3), (4, .int v4), (5, .int v5), (6, .int v6)] → W p l e { frames := 3, cells := 0, slots := 0, locals := 68 } s m args below meth c H locs 0 0 (MQ below (mQ (some (.int q.1)) D 43 ad (mM y ad q.2.1 q.2.2.1 q.2.2.2) s.heap.size) args s 0 0 (mFree 43 ad s.heap.size)) (F0 m 80 ls []) := by
  obtain ⟨hx, hb, hml, hown, hts, hr, hlk⟩ := id hB
  intro n
  induction n with
  | zero =>
    intro th ρ α v3 v4 v5 v6 h
    exact nomatch h
  | succ n ih =>
    intro th ρ α v3 v4 v5 v6 h H locs ls V hl
    rw [f_X7_foresee_80] at h
    refine lv_iload hx hb dX7_foresee_80 (lv_at hl 6 rfl) ?_
    refine lv_iload_n hx hb dX7_foresee_82 rfl (lv_at hl 1 rfl) ?_
    refine lv_icmp_ge (tgt := 175) hx hb dX7_foresee_83 (by decide) (fun hc29 => ?_) (fun hc29 => ?_)
    · replace h := ite_t hc29 h
      refine lv_iload_n hx hb dX7_foresee_175 rfl (lv_at hl 2 rfl) ?_
      refine lv_if_ne (tgt := 183) hx hb dX7_foresee_176 (by decide) (fun hc30 => ?_) (fun hc30 => ?_)
      · replace h := ite_f hc30 h
        refine lv_iload_n hx hb dX7_foresee_183 rfl (lv_at hl 2 rfl) ?_
        refine lv_iconst (v := 1) hx hb dX7_foresee_184 (by decide) ?_
        refine lv_icmp_ne (tgt := 193) hx hb dX7_foresee_185 (by decide) (fun hc31 => ?_) (fun hc31 => ?_)
        · replace h := ite_f hc31 h
          refine lv_iload_n hx hb dX7_foresee_193 rfl (lv_at hl 2 rfl) ?_
          refine lv_iconst (v := 2) hx hb dX7_foresee_194 (by decide) ?_
          refine lv_icmp_ne (tgt := 203) hx hb dX7_foresee_195 (by decide) (fun hc32 => ?_) (fun hc32 => ?_)
          · replace h := ite_f hc32 h
            refine lv_aload_n hx hb dX7_foresee_203 rfl (lv_at hl 0 rfl) ?_
            refine rM_ahead hx hb hts hown (fun _ h => List.mem_cons_of_mem _ (List.mem_append_left _ (List.mem_append_right _ h))) V (hts _ (List.mem_of_getElem? (i := 3) rfl)) dX7_foresee_204 ?_
            obtain ⟨q33, hq33, h⟩ := bd_s h
            refine kOR (As := []) (rest := []) ⟨hx, hb, hml, hown, hts⟩ V (c_X6_bad (l := l) (D := D) (y := y) (ad := fun k => ad (21 + k)) hq33) (cwV 0 hts gX7_foresee_X6_bad rfl rfl rfl (by decide +kernel) ⟨Nat.le_of_ble_eq_true rfl, Nat.le_of_ble_eq_true rfl⟩) (by omega) ((mM_1 y ad _ _ _ (by omega)).trans (mR_T y (fun k => ad (21 + k)) _)) rfl rfl hl.1 rfl (Nat.le_of_ble_eq_true rfl) ⟨Nat.zero_le _, Nat.zero_le _⟩ rfl dX7_foresee_207 (fun H locs V => ?_)
            refine lv_aload_n hx hb dX7_foresee_210 rfl (lv_at hl 0 rfl) ?_
            refine rM_s hx hb hts hown (fun _ h => List.mem_cons_of_mem _ (List.mem_append_left _ (List.mem_append_right _ h))) V (hts _ (List.mem_of_getElem? (i := 2) rfl)) dX7_foresee_211 ?_
            obtain ⟨q34, hq34, h⟩ := bd_s h
            refine kMR (As := []) (rest := [.int q33.1]) ⟨hx, hb, hml, hown, hts⟩ V (c_X6_bad (l := l) (D := D) (y := y) (ad := ad) hq34) (cwV 0 hts gX7_foresee_X6_bad rfl rfl rfl (by decide +kernel) ⟨Nat.le_of_ble_eq_true rfl, Nat.le_of_ble_eq_true rfl⟩) (by omega) ((mM_0 y ad _ _ _ (by omega)).trans (mR_T y ad _)) rfl rfl hl.1 rfl (Nat.le_of_ble_eq_true rfl) ⟨Nat.zero_le _, Nat.zero_le _⟩ rfl dX7_foresee_214 (fun H locs V => ?_)
            refine lv_isub hx hb dX7_foresee_217 ?_
            obtain rfl := Option.some.inj h
            exact m_iret hx hb hr hlk V (Nat.zero_le _) (Nat.zero_le _) dX7_foresee_218
          · replace h := ite_t hc32 h
            refine lv_iload hx hb dX7_foresee_198 (lv_at hl 5 rfl) ?_
            refine lv_goto (tgt := 218) hx hb dX7_foresee_200 (by decide) ?_
            obtain rfl := Option.some.inj h
            exact m_iret hx hb hr hlk V (Nat.zero_le _) (Nat.zero_le _) dX7_foresee_218
        · replace h := ite_t hc31 h
          refine lv_iload hx hb dX7_foresee_188 (lv_at hl 4 rfl) ?_
          refine lv_goto (tgt := 218) hx hb dX7_foresee_190 (by decide) ?_
          obtain rfl := Option.some.inj h
          exact m_iret hx hb hr hlk V (Nat.zero_le _) (Nat.zero_le _) dX7_foresee_218
      · replace h := ite_t hc30 h
        refine lv_iload_n hx hb dX7_foresee_179 rfl (lv_at hl 3 rfl) ?_
        refine lv_goto (tgt := 218) hx hb dX7_foresee_180 (by decide) ?_
        obtain rfl := Option.some.inj h
        exact m_iret hx hb hr hlk V (Nat.zero_le _) (Nat.zero_le _) dX7_foresee_218
    · replace h := ite_f hc29 h
      refine lv_iload hx hb dX7_foresee_86 (lv_at hl 5 rfl) ?_
      refine lv_aload_n hx hb dX7_foresee_88 rfl (lv_at hl 0 rfl) ?_
      refine rM_ahead hx hb hts hown (fun _ h => List.mem_cons_of_mem _ (List.mem_append_left _ (List.mem_append_right _ h))) V (hts _ (List.mem_of_getElem? (i := 3) rfl)) dX7_foresee_89 ?_
      obtain ⟨q35, hq35, h⟩ := bd_s h
      refine kOR (As := []) (rest := [.int v5]) ⟨hx, hb, hml, hown, hts⟩ V (c_X6_pass (l := l) (D := D) (y := y) (ad := fun k => ad (21 + k)) hq35) (cwV 0 hts gX7_foresee_X6_pass rfl rfl rfl (by decide +kernel) ⟨Nat.le_of_ble_eq_true rfl, Nat.le_of_ble_eq_true rfl⟩) (by omega) ((mM_1 y ad _ _ _ (by omega)).trans (mR_T y (fun k => ad (21 + k)) _)) rfl rfl hl.1 rfl (Nat.le_of_ble_eq_true rfl) ⟨Nat.zero_le _, Nat.zero_le _⟩ rfl dX7_foresee_92 (fun H locs V => ?_)
      refine lv_iadd hx hb dX7_foresee_95 ?_
      refine lv_istore (lv' := [(5, .int (v5 + q35.1)), (0, .ref (ad 42)), (1, .int a1), (2, .int a2), (3, .int v3), (4, .int v4), (6, .int v6)]) hx hb dX7_foresee_96 hl (by decide) rfl (fun ls hl => ?_)
      refine lv_iload hx hb dX7_foresee_98 (lv_at hl 0 rfl) ?_
      refine lv_if_eq (tgt := 169) hx hb dX7_foresee_100 (by decide) (fun hc36 => ?_) (fun hc36 => ?_)
      · replace h := ite_t hc36 h
        refine lv_iinc (v := v6 + 1) (lv' := [(6, .int (v6 + 1)), (5, .int (v5 + q35.1)), (0, .ref (ad 42)), (1, .int a1), (2, .int a2), (3, .int v3), (4, .int v4)]) hx hb dX7_foresee_169 hl (k := 6) rfl rfl (by decide) rfl (fun ls hl => ?_)
        refine lv_goto (tgt := 80) hx hb dX7_foresee_172 (by decide) ?_
        exact ih _ _ _ _ _ _ _ h _ _ _ V (lv_sub hl [2, 3, 4, 5, 6, 1, 0] rfl)
      · replace h := ite_f hc36 h
        refine lv_iload_n hx hb dX7_foresee_103 rfl (lv_at hl 4 rfl) ?_
        refine lv_iconst (v := (-1)) hx hb dX7_foresee_104 (by decide) ?_
        refine lv_icmp_eq (tgt := 111) hx hb dX7_foresee_105 (by decide) (fun hc37 => ?_) (fun hc37 => ?_)
        · replace h := ite_t hc37 h
          refine lv_aload_n hx hb dX7_foresee_111 rfl (lv_at hl 1 rfl) ?_
          refine rM_ahead hx hb hts hown (fun _ h => List.mem_cons_of_mem _ (List.mem_append_left _ (List.mem_append_right _ h))) V (hts _ (List.mem_of_getElem? (i := 3) rfl)) dX7_foresee_112 ?_
          refine gO_T hx hb hts hown (fun _ h => List.mem_cons_of_mem _ (List.mem_append_right _ h)) V 0 (by decide) (mN_use (q := (109, "time", "I")) Z 16 rfl) (v := .int (q35.2 20 0)) rfl dX7_foresee_115 ?_
          refine lv_istore (lv' := [(4, .int (q35.2 20 0)), (5, .int (v5 + q35.1)), (0, .ref (ad 42)), (1, .int a1), (2, .int a2), (3, .int v3), (6, .int v6)]) hx hb dX7_foresee_118 hl (by decide) rfl (fun ls hl => ?_)
          refine lv_aload_n hx hb dX7_foresee_120 rfl (lv_at hl 2 rfl) ?_
          refine rM_s hx hb hts hown (fun _ h => List.mem_cons_of_mem _ (List.mem_append_left _ (List.mem_append_right _ h))) V (hts _ (List.mem_of_getElem? (i := 2) rfl)) dX7_foresee_121 ?_
          refine gM_T hx hb hts hown (fun _ h => List.mem_cons_of_mem _ (List.mem_append_right _ h)) V 7 (by decide) (mN_use (q := (51, "games", "I")) Z 6 rfl) (v := .int (ρ 22 0)) rfl dX7_foresee_124 ?_
          refine lv_iconst (v := 1) hx hb dX7_foresee_127 (by decide) ?_
          refine lv_isub hx hb dX7_foresee_128 ?_
          refine lv_istore (lv' := [(7, .int ((ρ 22 0) - 1)), (4, .int (q35.2 20 0)), (5, .int (v5 + q35.1)), (0, .ref (ad 42)), (1, .int a1), (2, .int a2), (3, .int v3), (6, .int v6)]) hx hb dX7_foresee_129 hl (by decide) rfl (fun ls hl => ?_)
          exact w_X7_foresee_131 Z hB ih _ _ _ _ _ _ _ _ _ h _ _ _ V (lv_sub hl [3, 4, 5, 6, 1, 2, 7, 0] rfl)
        · replace h := ite_f hc37 h
          refine lv_goto (tgt := 169) hx hb dX7_foresee_108 (by decide) ?_
          refine lv_iinc (v := v6 + 1) (lv' := [(6, .int (v6 + 1)), (5, .int (v5 + q35.1)), (0, .ref (ad 42)), (1, .int a1), (2, .int a2), (3, .int v3), (4, .int v4)]) hx hb dX7_foresee_169 hl (k := 6) rfl rfl (by decide) rfl (fun ls hl => ?_)
          refine lv_goto (tgt := 80) hx hb dX7_foresee_172 (by decide) ?_
          exact ih _ _ _ _ _ _ _ h _ _ _ V (lv_sub hl [2, 3, 4, 5, 6, 1, 0] rfl)
def f_X7_foresee (N : Nat) (th : Int32) (ρ α : mSt) (a1 : Int32) (a2 : Int32) : Option (Int32 × Int32 × mSt × mSt) := (f_X7_isIn N 0 ρ α a1 1 2400).bind fun q38 => if q38.1 = 0 then (f_X7_no N q38.2.1 q38.2.2.1 q38.2.2.2 1).bind fun q46 => some (q46.1, q46.2.1, q46.2.2.1, q46.2.2.2) else (f_X7_isIn N q38.2.1 q38.2.2.1 q38.2.2.2 a2 0 3).bind fun q40 => if q40.1 = 0 then (f_X7_no N q40.2.1 q40.2.2.1 q40.2.2.2 2).bind fun q45 => some (q45.1, q45.2.1, q45.2.2.1, q45.2.2.2) else if ((q40.2.2.1 20 0) + a1) ≤ 20000 then (f_X6_become N q40.2.1 q40.2.2.1 q40.2.2.2).bind fun q43 => f_X7_foresee_80 N a1 a2 N q43.2.1 q43.2.2.1 q43.2.2.2 (-1) (-1) 0 0 else (f_X7_no N q40.2.1 q40.2.2.1 q40.2.2.2 3).bind fun q44 => some (q44.1, q44.2.1, q44.2.2.1, q44.2.2.2)
set_option maxHeartbeats 4000000 in
set_option maxRecDepth 100000 in
theorem c_X7_foresee {l : Launch} {D : va_G} {y : Nat → ClassId} {ad : Nat → Nat} {N : Nat} {th : Int32} {ρ α : mSt} {a1 : Int32} {a2 : Int32} {q : Int32 × Int32 × mSt × mSt} (h : f_X7_foresee N th ρ α a1 a2 = some q) : mC l yX7_foresee wsX7_foresee { frames := 3, cells := 0, slots := 0, locals := 68 } D y 43 ad mN (mM y ad th ρ α) [.ref (ad 42), .int a1, .int a2] (some (.int q.1)) (mM y ad q.2.1 q.2.2.1 q.2.2.2) 0 0 := by
  refine m_start (cc := cX7_foresee) (maxL := 8) (ret := (some .int)) (by decide) rfl (Nat.le_of_ble_eq_true rfl) (fun p e s m args below meth c ls hB _ V Z hl => ?_)
  obtain ⟨hx, hb, hml, hown, hts, hr, hlk⟩ := id hB
  have hl : lv_has ls 8 [(0, .ref (ad 42)), (1, .int a1), (2, .int a2)] := hl
  rw [f_X7_foresee] at h
  refine lv_aload_n hx hb dX7_foresee_0 rfl (lv_at hl 0 rfl) ?_
  refine lv_iconst (v := 0) hx hb dX7_foresee_1 (by decide) ?_
  refine pM_th hx hb hts hown (fun _ h => List.mem_cons_of_mem _ (List.mem_append_left _ (List.mem_append_right _ h))) V (hts _ (List.mem_of_getElem? (i := 1) rfl)) dX7_foresee_2 (fun H locs V => ?_)
  refine lv_iload_n hx hb dX7_foresee_5 rfl (lv_at hl 1 rfl) ?_
  refine lv_iconst (v := 1) hx hb dX7_foresee_6 (by decide) ?_
  refine lv_sipush (v := 2400) hx hb dX7_foresee_7 (by decide) ?_
  obtain ⟨q38, hq38, h⟩ := bd_s h
  refine kMMs (As := [.int a1, .int 1, .int 2400]) (rest := []) ⟨hx, hb, hml, hown, hts⟩ Z V (c_X7_isIn (l := l) (D := D) (y := y) (ad := ad) hq38) (va_cwS 3 hts gX7_foresee_X7_isIn rfl rfl rfl (by decide +kernel) ⟨Nat.le_of_ble_eq_true rfl, Nat.le_of_ble_eq_true rfl⟩) rfl hl.1 rfl (Nat.le_of_ble_eq_true rfl) ⟨Nat.zero_le _, Nat.zero_le _⟩ rfl dX7_foresee_10 (fun H locs V => ?_)
  refine lv_if_ne (tgt := 22) hx hb dX7_foresee_13 (by decide) (fun hc39 => ?_) (fun hc39 => ?_)
  · replace h := ite_f hc39 h
    refine lv_iload_n hx hb dX7_foresee_22 rfl (lv_at hl 2 rfl) ?_
    refine lv_iconst (v := 0) hx hb dX7_foresee_23 (by decide) ?_
    refine lv_iconst (v := 3) hx hb dX7_foresee_24 (by decide) ?_
    obtain ⟨q40, hq40, h⟩ := bd_s h
    refine kMMs (As := [.int a2, .int 0, .int 3]) (rest := []) ⟨hx, hb, hml, hown, hts⟩ Z V (c_X7_isIn (l := l) (D := D) (y := y) (ad := ad) hq40) (va_cwS 3 hts gX7_foresee_X7_isIn rfl rfl rfl (by decide +kernel) ⟨Nat.le_of_ble_eq_true rfl, Nat.le_of_ble_eq_true rfl⟩) rfl hl.1 rfl (Nat.le_of_ble_eq_true rfl) ⟨Nat.zero_le _, Nat.zero_le _⟩ rfl dX7_foresee_25 (fun H locs V => ?_)
    refine lv_if_ne (tgt := 37) hx hb dX7_foresee_28 (by decide) (fun hc41 => ?_) (fun hc41 => ?_)
    · replace h := ite_f hc41 h
      refine lv_aload_n hx hb dX7_foresee_37 rfl (lv_at hl 0 rfl) ?_
      refine rM_s hx hb hts hown (fun _ h => List.mem_cons_of_mem _ (List.mem_append_left _ (List.mem_append_right _ h))) V (hts _ (List.mem_of_getElem? (i := 2) rfl)) dX7_foresee_38 ?_
      refine gM_T hx hb hts hown (fun _ h => List.mem_cons_of_mem _ (List.mem_append_right _ h)) V 0 (by decide) (mN_use (q := (109, "time", "I")) Z 16 rfl) (v := .int (q40.2.2.1 20 0)) rfl dX7_foresee_41 ?_
      refine lv_iload_n hx hb dX7_foresee_44 rfl (lv_at hl 1 rfl) ?_
      refine lv_iadd hx hb dX7_foresee_45 ?_
      refine lv_sipush (v := 20000) hx hb dX7_foresee_46 (by decide) ?_
      refine lv_icmp_le (tgt := 58) hx hb dX7_foresee_49 (by decide) (fun hc42 => ?_) (fun hc42 => ?_)
      · replace h := ite_t hc42 h
        refine lv_aload_n hx hb dX7_foresee_58 rfl (lv_at hl 0 rfl) ?_
        refine rM_ahead hx hb hts hown (fun _ h => List.mem_cons_of_mem _ (List.mem_append_left _ (List.mem_append_right _ h))) V (hts _ (List.mem_of_getElem? (i := 3) rfl)) dX7_foresee_59 ?_
        refine lv_aload_n hx hb dX7_foresee_62 rfl (lv_at hl 0 rfl) ?_
        refine rM_s hx hb hts hown (fun _ h => List.mem_cons_of_mem _ (List.mem_append_left _ (List.mem_append_right _ h))) V (hts _ (List.mem_of_getElem? (i := 2) rfl)) dX7_foresee_63 ?_
        obtain ⟨q43, hq43, h⟩ := bd_s h
        refine kMM (As := [.ref (ad 0)]) (rest := []) ⟨hx, hb, hml, hown, hts⟩ Z V (c_X6_become (l := l) (D := D) (y := y) (ad := ad) hq43) (cwV 1 hts gX7_foresee_X6_become rfl rfl rfl (by decide +kernel) ⟨Nat.le_of_ble_eq_true rfl, Nat.le_of_ble_eq_true rfl⟩) (by omega) ((mM_1 y ad _ _ _ (by omega)).trans (mR_T y (fun k => ad (21 + k)) _)) rfl rfl hl.1 rfl (Nat.le_of_ble_eq_true rfl) ⟨Nat.zero_le _, Nat.zero_le _⟩ rfl dX7_foresee_66 (fun H locs V => ?_)
        refine lv_iconst (v := (-1)) hx hb dX7_foresee_69 (by decide) ?_
        refine lv_istore_n (lv' := [(3, .int (-1)), (0, .ref (ad 42)), (1, .int a1), (2, .int a2)]) hx hb dX7_foresee_70 rfl hl (by decide) rfl (fun ls hl => ?_)
        refine lv_iconst (v := (-1)) hx hb dX7_foresee_71 (by decide) ?_
        refine lv_istore (lv' := [(4, .int (-1)), (3, .int (-1)), (0, .ref (ad 42)), (1, .int a1), (2, .int a2)]) hx hb dX7_foresee_72 hl (by decide) rfl (fun ls hl => ?_)
        refine lv_iconst (v := 0) hx hb dX7_foresee_74 (by decide) ?_
        refine lv_istore (lv' := [(5, .int 0), (4, .int (-1)), (3, .int (-1)), (0, .ref (ad 42)), (1, .int a1), (2, .int a2)]) hx hb dX7_foresee_75 hl (by decide) rfl (fun ls hl => ?_)
        refine lv_iconst (v := 0) hx hb dX7_foresee_77 (by decide) ?_
        refine lv_istore (lv' := [(6, .int 0), (5, .int 0), (4, .int (-1)), (3, .int (-1)), (0, .ref (ad 42)), (1, .int a1), (2, .int a2)]) hx hb dX7_foresee_78 hl (by decide) rfl (fun ls hl => ?_)
        exact w_X7_foresee_80 Z hB _ _ _ _ _ _ _ _ h _ _ _ V (lv_sub hl [4, 5, 6, 3, 2, 1, 0] rfl)
      · replace h := ite_f hc42 h
        refine lv_aload_n hx hb dX7_foresee_52 rfl (lv_at hl 0 rfl) ?_
        refine lv_iconst (v := 3) hx hb dX7_foresee_53 (by decide) ?_
        obtain ⟨q44, hq44, h⟩ := bd_s h
        refine kMM (As := [.int 3]) (rest := []) ⟨hx, hb, hml, hown, hts⟩ Z V (c_X7_no (l := l) (D := D) (y := y) (ad := ad) hq44) (cwV 1 hts gX7_foresee_X7_no rfl rfl rfl (by decide +kernel) ⟨Nat.le_of_ble_eq_true rfl, Nat.le_of_ble_eq_true rfl⟩) (by omega) (mM_m y ad _ _ _) rfl rfl hl.1 rfl (Nat.le_of_ble_eq_true rfl) ⟨Nat.zero_le _, Nat.zero_le _⟩ rfl dX7_foresee_54 (fun H locs V => ?_)
        obtain rfl := Option.some.inj h
        exact m_iret hx hb hr hlk V (Nat.zero_le _) (Nat.zero_le _) dX7_foresee_57
    · replace h := ite_t hc41 h
      refine lv_aload_n hx hb dX7_foresee_31 rfl (lv_at hl 0 rfl) ?_
      refine lv_iconst (v := 2) hx hb dX7_foresee_32 (by decide) ?_
      obtain ⟨q45, hq45, h⟩ := bd_s h
      refine kMM (As := [.int 2]) (rest := []) ⟨hx, hb, hml, hown, hts⟩ Z V (c_X7_no (l := l) (D := D) (y := y) (ad := ad) hq45) (cwV 1 hts gX7_foresee_X7_no rfl rfl rfl (by decide +kernel) ⟨Nat.le_of_ble_eq_true rfl, Nat.le_of_ble_eq_true rfl⟩) (by omega) (mM_m y ad _ _ _) rfl rfl hl.1 rfl (Nat.le_of_ble_eq_true rfl) ⟨Nat.zero_le _, Nat.zero_le _⟩ rfl dX7_foresee_33 (fun H locs V => ?_)
      obtain rfl := Option.some.inj h
      exact m_iret hx hb hr hlk V (Nat.zero_le _) (Nat.zero_le _) dX7_foresee_36
  · replace h := ite_t hc39 h
    refine lv_aload_n hx hb dX7_foresee_16 rfl (lv_at hl 0 rfl) ?_
    refine lv_iconst (v := 1) hx hb dX7_foresee_17 (by decide) ?_
    obtain ⟨q46, hq46, h⟩ := bd_s h
    refine kMM (As := [.int 1]) (rest := []) ⟨hx, hb, hml, hown, hts⟩ Z V (c_X7_no (l := l) (D := D) (y := y) (ad := ad) hq46) (cwV 1 hts gX7_foresee_X7_no rfl rfl rfl (by decide +kernel) ⟨Nat.le_of_ble_eq_true rfl, Nat.le_of_ble_eq_true rfl⟩) (by omega) (mM_m y ad _ _ _) rfl rfl hl.1 rfl (Nat.le_of_ble_eq_true rfl) ⟨Nat.zero_le _, Nat.zero_le _⟩ rfl dX7_foresee_18 (fun H locs V => ?_)
    obtain rfl := Option.some.inj h
    exact m_iret hx hb hr hlk V (Nat.zero_le _) (Nat.zero_le _) dX7_foresee_21
-- X7_isAhead
def f_X7_isAhead (N : Nat) (th : Int32) (ρ α : mSt) (a1 : Int32) (a2 : Int32) : Option (Int32 × Int32 × mSt × mSt) := if mIn a1 8 then if mIn a2 8 then if ((ρ 2 a1.toNatClampNeg) - (ρ 3 a1.toNatClampNeg)) = ((ρ 2 a2.toNatClampNeg) - (ρ 3 a2.toNatClampNeg)) then if (ρ 0 a2.toNatClampNeg) < (ρ 0 a1.toNatClampNeg) then some (1, th, ρ, α) else if (ρ 0 a1.toNatClampNeg) = (ρ 0 a2.toNatClampNeg) then if a2 ≤ a1 then some (0, th, ρ, α) else some (1, th, ρ, α) else some (0, th, ρ, α) else if ((ρ 2 a1.toNatClampNeg) - (ρ 3 a1.toNatClampNeg)) ≤ ((ρ 2 a2.toNatClampNeg) - (ρ 3 a2.toNatClampNeg)) then some (0, th, ρ, α) else some (1, th, ρ, α) else none else none
set_option maxHeartbeats 4000000 in
set_option maxRecDepth 100000 in
theorem c_X7_isAhead {l : Launch} {D : va_G} {y : Nat → ClassId} {ad : Nat → Nat} {N : Nat} {th : Int32} {ρ α : mSt} {a1 : Int32} {a2 : Int32} {q : Int32 × Int32 × mSt × mSt} (h : f_X7_isAhead N th ρ α a1 a2 = some q) : mC l yX7_isAhead wsX7_isAhead { frames := 0, cells := 0, slots := 0, locals := 0 } D y 43 ad mN (mM y ad th ρ α) [.ref (ad 42), .int a1, .int a2] (some (.int q.1)) (mM y ad q.2.1 q.2.2.1 q.2.2.2) 0 0 := by
  refine m_start (cc := cX7_isAhead) (maxL := 5) (ret := (some .boolean)) (by decide) rfl (Nat.le_of_ble_eq_true rfl) (fun p e s m args below meth c ls hB _ V Z hl => ?_)
  obtain ⟨hx, hb, hml, hown, hts, hr, hlk⟩ := id hB
  have hl : lv_has ls 5 [(0, .ref (ad 42)), (1, .int a1), (2, .int a2)] := hl
  rw [f_X7_isAhead] at h
  refine lv_aload_n hx hb dX7_isAhead_0 rfl (lv_at hl 0 rfl) ?_
  refine rM_s hx hb hts hown (fun _ h => List.mem_cons_of_mem _ (List.mem_append_left _ (List.mem_append_right _ h))) V (hts _ (List.mem_of_getElem? (i := 1) rfl)) dX7_isAhead_1 ?_
  refine gM_T hx hb hts hown (fun _ h => List.mem_cons_of_mem _ (List.mem_append_right _ h)) V 4 (by decide) (mN_use (q := (67, "won", "[I")) Z 9 rfl) (v := .ref (ad 3)) rfl dX7_isAhead_4 ?_
  refine lv_iload_n hx hb dX7_isAhead_7 rfl (lv_at hl 1 rfl) ?_
  obtain ⟨hi14, h⟩ := gd_s h
  refine aM_I hx hb V 2 3 8 (by decide) rfl rfl hi14 dX7_isAhead_8 ?_
  refine lv_aload_n hx hb dX7_isAhead_9 rfl (lv_at hl 0 rfl) ?_
  refine rM_s hx hb hts hown (fun _ h => List.mem_cons_of_mem _ (List.mem_append_left _ (List.mem_append_right _ h))) V (hts _ (List.mem_of_getElem? (i := 1) rfl)) dX7_isAhead_10 ?_
  refine gM_T hx hb hts hown (fun _ h => List.mem_cons_of_mem _ (List.mem_append_right _ h)) V 5 (by decide) (mN_use (q := (70, "lost", "[I")) Z 10 rfl) (v := .ref (ad 4)) rfl dX7_isAhead_13 ?_
  refine lv_iload_n hx hb dX7_isAhead_16 rfl (lv_at hl 1 rfl) ?_
  refine aM_I hx hb V 3 4 8 (by decide) rfl rfl hi14 dX7_isAhead_17 ?_
  refine lv_isub hx hb dX7_isAhead_18 ?_
  refine lv_istore_n (lv' := [(3, .int ((ρ 2 a1.toNatClampNeg) - (ρ 3 a1.toNatClampNeg))), (0, .ref (ad 42)), (1, .int a1), (2, .int a2)]) hx hb dX7_isAhead_19 rfl hl (by decide) rfl (fun ls hl => ?_)
  refine lv_aload_n hx hb dX7_isAhead_20 rfl (lv_at hl 1 rfl) ?_
  refine rM_s hx hb hts hown (fun _ h => List.mem_cons_of_mem _ (List.mem_append_left _ (List.mem_append_right _ h))) V (hts _ (List.mem_of_getElem? (i := 1) rfl)) dX7_isAhead_21 ?_
  refine gM_T hx hb hts hown (fun _ h => List.mem_cons_of_mem _ (List.mem_append_right _ h)) V 4 (by decide) (mN_use (q := (67, "won", "[I")) Z 9 rfl) (v := .ref (ad 3)) rfl dX7_isAhead_24 ?_
  refine lv_iload_n hx hb dX7_isAhead_27 rfl (lv_at hl 3 rfl) ?_
  obtain ⟨hi16, h⟩ := gd_s h
  refine aM_I hx hb V 2 3 8 (by decide) rfl rfl hi16 dX7_isAhead_28 ?_
  refine lv_aload_n hx hb dX7_isAhead_29 rfl (lv_at hl 1 rfl) ?_
  refine rM_s hx hb hts hown (fun _ h => List.mem_cons_of_mem _ (List.mem_append_left _ (List.mem_append_right _ h))) V (hts _ (List.mem_of_getElem? (i := 1) rfl)) dX7_isAhead_30 ?_
  refine gM_T hx hb hts hown (fun _ h => List.mem_cons_of_mem _ (List.mem_append_right _ h)) V 5 (by decide) (mN_use (q := (70, "lost", "[I")) Z 10 rfl) (v := .ref (ad 4)) rfl dX7_isAhead_33 ?_
  refine lv_iload_n hx hb dX7_isAhead_36 rfl (lv_at hl 3 rfl) ?_
  refine aM_I hx hb V 3 4 8 (by decide) rfl rfl hi16 dX7_isAhead_37 ?_
  refine lv_isub hx hb dX7_isAhead_38 ?_
  refine lv_istore (lv' := [(4, .int ((ρ 2 a2.toNatClampNeg) - (ρ 3 a2.toNatClampNeg))), (3, .int ((ρ 2 a1.toNatClampNeg) - (ρ 3 a1.toNatClampNeg))), (0, .ref (ad 42)), (1, .int a1), (2, .int a2)]) hx hb dX7_isAhead_39 hl (by decide) rfl (fun ls hl => ?_)
  refine lv_iload_n hx hb dX7_isAhead_41 rfl (lv_at hl 1 rfl) ?_
  refine lv_iload hx hb dX7_isAhead_42 (lv_at hl 0 rfl) ?_
  refine lv_icmp_eq (tgt := 59) hx hb dX7_isAhead_44 (by decide) (fun hc18 => ?_) (fun hc18 => ?_)
  · replace h := ite_t hc18 h
    refine lv_aload_n hx hb dX7_isAhead_59 rfl (lv_at hl 2 rfl) ?_
    refine rM_s hx hb hts hown (fun _ h => List.mem_cons_of_mem _ (List.mem_append_left _ (List.mem_append_right _ h))) V (hts _ (List.mem_of_getElem? (i := 1) rfl)) dX7_isAhead_60 ?_
    refine gM_T hx hb hts hown (fun _ h => List.mem_cons_of_mem _ (List.mem_append_right _ h)) V 2 (by decide) (mN_use (q := (35, "coins", "[I")) Z 1 rfl) (v := .ref (ad 1)) rfl dX7_isAhead_63 ?_
    refine lv_iload_n hx hb dX7_isAhead_66 rfl (lv_at hl 3 rfl) ?_
    refine aM_I hx hb V 0 1 8 (by decide) rfl rfl hi14 dX7_isAhead_67 ?_
    refine lv_aload_n hx hb dX7_isAhead_68 rfl (lv_at hl 2 rfl) ?_
    refine rM_s hx hb hts hown (fun _ h => List.mem_cons_of_mem _ (List.mem_append_left _ (List.mem_append_right _ h))) V (hts _ (List.mem_of_getElem? (i := 1) rfl)) dX7_isAhead_69 ?_
    refine gM_T hx hb hts hown (fun _ h => List.mem_cons_of_mem _ (List.mem_append_right _ h)) V 2 (by decide) (mN_use (q := (35, "coins", "[I")) Z 1 rfl) (v := .ref (ad 1)) rfl dX7_isAhead_72 ?_
    refine lv_iload_n hx hb dX7_isAhead_75 rfl (lv_at hl 4 rfl) ?_
    refine aM_I hx hb V 0 1 8 (by decide) rfl rfl hi16 dX7_isAhead_76 ?_
    refine lv_icmp_gt (tgt := 106) hx hb dX7_isAhead_77 (by decide) (fun hc21 => ?_) (fun hc21 => ?_)
    · replace h := ite_t hc21 h
      refine lv_iconst (v := 1) hx hb dX7_isAhead_106 (by decide) ?_
      refine lv_goto (tgt := 111) hx hb dX7_isAhead_107 (by decide) ?_
      obtain rfl := Option.some.inj h
      exact m_zret hx hb hr hlk V (Or.inr rfl) (Nat.zero_le _) (Nat.zero_le _) dX7_isAhead_111
    · replace h := ite_f hc21 h
      refine lv_aload_n hx hb dX7_isAhead_80 rfl (lv_at hl 2 rfl) ?_
      refine rM_s hx hb hts hown (fun _ h => List.mem_cons_of_mem _ (List.mem_append_left _ (List.mem_append_right _ h))) V (hts _ (List.mem_of_getElem? (i := 1) rfl)) dX7_isAhead_81 ?_
      refine gM_T hx hb hts hown (fun _ h => List.mem_cons_of_mem _ (List.mem_append_right _ h)) V 2 (by decide) (mN_use (q := (35, "coins", "[I")) Z 1 rfl) (v := .ref (ad 1)) rfl dX7_isAhead_84 ?_
      refine lv_iload_n hx hb dX7_isAhead_87 rfl (lv_at hl 3 rfl) ?_
      refine aM_I hx hb V 0 1 8 (by decide) rfl rfl hi14 dX7_isAhead_88 ?_
      refine lv_aload_n hx hb dX7_isAhead_89 rfl (lv_at hl 2 rfl) ?_
      refine rM_s hx hb hts hown (fun _ h => List.mem_cons_of_mem _ (List.mem_append_left _ (List.mem_append_right _ h))) V (hts _ (List.mem_of_getElem? (i := 1) rfl)) dX7_isAhead_90 ?_
      refine gM_T hx hb hts hown (fun _ h => List.mem_cons_of_mem _ (List.mem_append_right _ h)) V 2 (by decide) (mN_use (q := (35, "coins", "[I")) Z 1 rfl) (v := .ref (ad 1)) rfl dX7_isAhead_93 ?_
      refine lv_iload_n hx hb dX7_isAhead_96 rfl (lv_at hl 4 rfl) ?_
      refine aM_I hx hb V 0 1 8 (by decide) rfl rfl hi16 dX7_isAhead_97 ?_
      refine lv_icmp_ne (tgt := 110) hx hb dX7_isAhead_98 (by decide) (fun hc24 => ?_) (fun hc24 => ?_)
      · replace h := ite_f hc24 h
        refine lv_iconst (v := 0) hx hb dX7_isAhead_110 (by decide) ?_
        obtain rfl := Option.some.inj h
        exact m_zret hx hb hr hlk V (Or.inl rfl) (Nat.zero_le _) (Nat.zero_le _) dX7_isAhead_111
      · replace h := ite_t hc24 h
        refine lv_iload_n hx hb dX7_isAhead_101 rfl (lv_at hl 3 rfl) ?_
        refine lv_iload_n hx hb dX7_isAhead_102 rfl (lv_at hl 4 rfl) ?_
        refine lv_icmp_ge (tgt := 110) hx hb dX7_isAhead_103 (by decide) (fun hc25 => ?_) (fun hc25 => ?_)
        · replace h := ite_t hc25 h
          refine lv_iconst (v := 0) hx hb dX7_isAhead_110 (by decide) ?_
          obtain rfl := Option.some.inj h
          exact m_zret hx hb hr hlk V (Or.inl rfl) (Nat.zero_le _) (Nat.zero_le _) dX7_isAhead_111
        · replace h := ite_f hc25 h
          refine lv_iconst (v := 1) hx hb dX7_isAhead_106 (by decide) ?_
          refine lv_goto (tgt := 111) hx hb dX7_isAhead_107 (by decide) ?_
          obtain rfl := Option.some.inj h
          exact m_zret hx hb hr hlk V (Or.inr rfl) (Nat.zero_le _) (Nat.zero_le _) dX7_isAhead_111
  · replace h := ite_f hc18 h
    refine lv_iload_n hx hb dX7_isAhead_47 rfl (lv_at hl 1 rfl) ?_
    refine lv_iload hx hb dX7_isAhead_48 (lv_at hl 0 rfl) ?_
    refine lv_icmp_le (tgt := 57) hx hb dX7_isAhead_50 (by decide) (fun hc26 => ?_) (fun hc26 => ?_)
    · replace h := ite_t hc26 h
      refine lv_iconst (v := 0) hx hb dX7_isAhead_57 (by decide) ?_
      obtain rfl := Option.some.inj h
      exact m_zret hx hb hr hlk V (Or.inl rfl) (Nat.zero_le _) (Nat.zero_le _) dX7_isAhead_58
    · replace h := ite_f hc26 h
      refine lv_iconst (v := 1) hx hb dX7_isAhead_53 (by decide) ?_
      refine lv_goto (tgt := 58) hx hb dX7_isAhead_54 (by decide) ?_
      obtain rfl := Option.some.inj h
      exact m_zret hx hb hr hlk V (Or.inr rfl) (Nat.zero_le _) (Nat.zero_le _) dX7_isAhead_58
-- X7_leader
def f_X7_leader_84 (N : Nat) (a1 : Int32) (rec32 : Int32 → mSt → mSt → Int32 → Int32 → Option (Int32 × Int32 × mSt × mSt)) (rec49 : Int32 → mSt → mSt → Int32 → Int32 → Int32 → Int32 → Option (Int32 × Int32 × mSt × mSt)) (th : Int32) (ρ α : mSt) (v2 : Int32) (v3 : Int32) (v5 : Int32) (s0 : Int32) (s1 : Int32) : Option (Int32 × Int32 × mSt × mSt) := rec49 th ρ α v2 v3 (s0 + s1) (v5 + 1)
set_option maxHeartbeats 4000000 in
set_option maxRecDepth 100000 in
theorem w_X7_leader_84 {l : Launch} {D : va_G} {y : Nat → ClassId} {ad : Nat → Nat} {N : Nat} {p : Program} {e : Env} {s : State} {m : MethodId} {args : Array Value} {below : List Frame} {meth : Method} {c : Code} (Z : mN (mFree 43 ad s.heap.size) s) (hB : mBd p s m args meth c cX7_leader 6 wsX7_leader RX7 (some .int)) {a1 : Int32} {q : Int32 × Int32 × mSt × mSt} {rec32 : Int32 → mSt → mSt → Int32 → Int32 → Option (Int32 × Int32 × mSt × mSt)} {rec49 : Int32 → mSt → mSt → Int32 → Int32 → Int32 → Int32 → Option (Int32 × Int32 × mSt × mSt)} (hrec32 : ∀ (th : Int32) (ρ α : mSt) (v2 : Int32) (v3 : Int32), rec32 th ρ α v2 v3 = some q → ∀ (H : Heap) (locs : List Loc) (ls : Array Slot), mV D y (mFree 43 ad s.heap.size) s s.heap H locs 43 ad (mM y ad th ρ α) → lv_has ls 6 [(0, .ref (ad 42)), (1, .int a1), (2, .int v2), (3, .int v3)] → W p l e { frames := 1, cells := 0, slots := 0, locals := 24 } s m args below meth c H locs 0 0 (MQ below (mQ (some (.int q.1)) D 43 ad (mM y ad q.2.1 q.2.2.1 q.2.2.2) s.heap.size) args s 0 0 (mFree 43 ad s.heap.size)) (F0 m 32 ls [])) (hrec49 : ∀ (th : Int32) (ρ α : mSt) (v2 : Int32) (v3 : Int32) (v4 : Int32) (v5 : Int32), rec49 th ρ α v2 v3 v4 v5 = some q → ∀ (H : Heap) (locs : List Loc) (ls : Array Slot), mV D y (mFree 43 ad s.heap.size) s s.heap H locs 43 ad (mM y ad th ρ α) → lv_has ls 6 [(0, .ref (ad 42)), (1, .int a1), (2, .int v2), (3, .int v3), (4, .int v4), (5, .int v5)] → W p l e { frames := 1, cells := 0, slots := 0, locals := 24 } s m args below meth c H locs 0 0 (MQ below (mQ (some (.int q.1)) D 43 ad (mM y ad q.2.1 q.2.2.1 q.2.2.2) s.heap.size) args s 0 0 (mFree 43 ad s.heap.size)) (F0 m 49 ls [])) : ∀ (th : Int32) (ρ α : mSt) (v2 : Int32) (v3 : Int32) (v5 : Int32) (s0 : Int32) (s1 : Int32), f_X7_leader_84 N a1 rec32 rec49 th ρ α v2 v3 v5 s0 s1 = some q → ∀ (H : Heap) (locs : List Loc) (ls : Array Slot), mV D y (mFree 43 ad s.heap.size) s s.heap H locs 43 ad (mM y ad th ρ α) → lv_has ls 6 [(0, .ref (ad 42)), (1, .int a1), (2, .int v2), (3, .int v3), (5, .int v5)] → W p l e { frames := 1, cells := 0, slots := 0, locals := 24 } s m args below meth c H locs 0 0 (MQ below (mQ (some (.int q.1)) D 43 ad (mM y ad q.2.1 q.2.2.1 q.2.2.2) s.heap.size) args s 0 0 (mFree 43 ad s.heap.size)) (F0 m 84 ls [.int s1, .int s0]) := by
  obtain ⟨hx, hb, hml, hown, hts, hr, hlk⟩ := id hB
  intro th ρ α v2 v3 v5 s0 s1 h H locs ls V hl
  rw [f_X7_leader_84] at h
  refine lv_iadd hx hb dX7_leader_84 ?_
  refine lv_istore (lv' := [(4, .int (s0 + s1)), (0, .ref (ad 42)), (1, .int a1), (2, .int v2), (3, .int v3), (5, .int v5)]) hx hb dX7_leader_85 hl (by decide) rfl (fun ls hl => ?_)
  refine lv_iinc (v := v5 + 1) (lv' := [(5, .int (v5 + 1)), (4, .int (s0 + s1)), (0, .ref (ad 42)), (1, .int a1), (2, .int v2), (3, .int v3)]) hx hb dX7_leader_87 hl (k := 5) rfl rfl (by decide) rfl (fun ls hl => ?_)
  refine lv_goto (tgt := 49) hx hb dX7_leader_90 (by decide) ?_
  exact hrec49 _ _ _ _ _ _ _ h _ _ _ V (lv_sub hl [2, 3, 4, 5, 1, 0] rfl)
def f_X7_leader_83 (N : Nat) (a1 : Int32) (rec32 : Int32 → mSt → mSt → Int32 → Int32 → Option (Int32 × Int32 × mSt × mSt)) (rec49 : Int32 → mSt → mSt → Int32 → Int32 → Int32 → Int32 → Option (Int32 × Int32 × mSt × mSt)) (th : Int32) (ρ α : mSt) (v2 : Int32) (v3 : Int32) (v5 : Int32) (s0 : Int32) : Option (Int32 × Int32 × mSt × mSt) := f_X7_leader_84 N a1 rec32 rec49 th ρ α v2 v3 v5 s0 0
set_option maxHeartbeats 4000000 in
set_option maxRecDepth 100000 in
theorem w_X7_leader_83 {l : Launch} {D : va_G} {y : Nat → ClassId} {ad : Nat → Nat} {N : Nat} {p : Program} {e : Env} {s : State} {m : MethodId} {args : Array Value} {below : List Frame} {meth : Method} {c : Code} (Z : mN (mFree 43 ad s.heap.size) s) (hB : mBd p s m args meth c cX7_leader 6 wsX7_leader RX7 (some .int)) {a1 : Int32} {q : Int32 × Int32 × mSt × mSt} {rec32 : Int32 → mSt → mSt → Int32 → Int32 → Option (Int32 × Int32 × mSt × mSt)} {rec49 : Int32 → mSt → mSt → Int32 → Int32 → Int32 → Int32 → Option (Int32 × Int32 × mSt × mSt)} (hrec32 : ∀ (th : Int32) (ρ α : mSt) (v2 : Int32) (v3 : Int32), rec32 th ρ α v2 v3 = some q → ∀ (H : Heap) (locs : List Loc) (ls : Array Slot), mV D y (mFree 43 ad s.heap.size) s s.heap H locs 43 ad (mM y ad th ρ α) → lv_has ls 6 [(0, .ref (ad 42)), (1, .int a1), (2, .int v2), (3, .int v3)] → W p l e { frames := 1, cells := 0, slots := 0, locals := 24 } s m args below meth c H locs 0 0 (MQ below (mQ (some (.int q.1)) D 43 ad (mM y ad q.2.1 q.2.2.1 q.2.2.2) s.heap.size) args s 0 0 (mFree 43 ad s.heap.size)) (F0 m 32 ls [])) (hrec49 : ∀ (th : Int32) (ρ α : mSt) (v2 : Int32) (v3 : Int32) (v4 : Int32) (v5 : Int32), rec49 th ρ α v2 v3 v4 v5 = some q → ∀ (H : Heap) (locs : List Loc) (ls : Array Slot), mV D y (mFree 43 ad s.heap.size) s s.heap H locs 43 ad (mM y ad th ρ α) → lv_has ls 6 [(0, .ref (ad 42)), (1, .int a1), (2, .int v2), (3, .int v3), (4, .int v4), (5, .int v5)] → W p l e { frames := 1, cells := 0, slots := 0, locals := 24 } s m args below meth c H locs 0 0 (MQ below (mQ (some (.int q.1)) D 43 ad (mM y ad q.2.1 q.2.2.1 q.2.2.2) s.heap.size) args s 0 0 (mFree 43 ad s.heap.size)) (F0 m 49 ls [])) : ∀ (th : Int32) (ρ α : mSt) (v2 : Int32) (v3 : Int32) (v5 : Int32) (s0 : Int32), f_X7_leader_83 N a1 rec32 rec49 th ρ α v2 v3 v5 s0 = some q → ∀ (H : Heap) (locs : List Loc) (ls : Array Slot), mV D y (mFree 43 ad s.heap.size) s s.heap H locs 43 ad (mM y ad th ρ α) → lv_has ls 6 [(0, .ref (ad 42)), (1, .int a1), (2, .int v2), (3, .int v3), (5, .int v5)] → W p l e { frames := 1, cells := 0, slots := 0, locals := 24 } s m args below meth c H locs 0 0 (MQ below (mQ (some (.int q.1)) D 43 ad (mM y ad q.2.1 q.2.2.1 q.2.2.2) s.heap.size) args s 0 0 (mFree 43 ad s.heap.size)) (F0 m 83 ls [.int s0]) := by
  obtain ⟨hx, hb, hml, hown, hts, hr, hlk⟩ := id hB
  intro th ρ α v2 v3 v5 s0 h H locs ls V hl
  rw [f_X7_leader_83] at h
  refine lv_iconst (v := 0) hx hb dX7_leader_83 (by decide) ?_
  exact w_X7_leader_84 Z hB hrec32 hrec49 _ _ _ _ _ _ _ _ h _ _ _ V (lv_sub hl [0, 1, 2, 3, 4] rfl)
def f_X7_leader_49 (N : Nat) (a1 : Int32) (rec32 : Int32 → mSt → mSt → Int32 → Int32 → Option (Int32 × Int32 × mSt × mSt)) : Nat → Int32 → mSt → mSt → Int32 → Int32 → Int32 → Int32 → Option (Int32 × Int32 × mSt × mSt)
  | 0, _, _, _, _, _, _, _ => none
  | n + 1, th, ρ, α, v2, v3, v4, v5 => if (ρ 21 0) ≤ v5 then if v4 = a1 then rec32 th ρ α v3 (v3 + 1) else rec32 th ρ α v2 (v3 + 1) else if v5 = v3 then f_X7_leader_83 N a1 rec32 (fun th ρ α v2 v3 v4 v5 => f_X7_leader_49 N a1 rec32 n th ρ α v2 v3 v4 v5) th ρ α v2 v3 v5 v4 else (f_X7_isAhead N th ρ α v5 v3).bind fun q13 => if q13.1 = 0 then f_X7_leader_83 N a1 rec32 (fun th ρ α v2 v3 v4 v5 => f_X7_leader_49 N a1 rec32 n th ρ α v2 v3 v4 v5) q13.2.1 q13.2.2.1 q13.2.2.2 v2 v3 v5 v4 else f_X7_leader_84 N a1 rec32 (fun th ρ α v2 v3 v4 v5 => f_X7_leader_49 N a1 rec32 n th ρ α v2 v3 v4 v5) q13.2.1 q13.2.2.1 q13.2.2.2 v2 v3 v5 v4 1
set_option maxHeartbeats 4000000 in
set_option maxRecDepth 100000 in
theorem w_X7_leader_49 {l : Launch} {D : va_G} {y : Nat → ClassId} {ad : Nat → Nat} {N : Nat} {p : Program} {e : Env} {s : State} {m : MethodId} {args : Array Value} {below : List Frame} {meth : Method} {c : Code} (Z : mN (mFree 43 ad s.heap.size) s) (hB : mBd p s m args meth c cX7_leader 6 wsX7_leader RX7 (some .int)) {a1 : Int32} {q : Int32 × Int32 × mSt × mSt} {rec32 : Int32 → mSt → mSt → Int32 → Int32 → Option (Int32 × Int32 × mSt × mSt)} (hrec32 : ∀ (th : Int32) (ρ α : mSt) (v2 : Int32) (v3 : Int32), rec32 th ρ α v2 v3 = some q → ∀ (H : Heap) (locs : List Loc) (ls : Array Slot), mV D y (mFree 43 ad s.heap.size) s s.heap H locs 43 ad (mM y ad th ρ α) → lv_has ls 6 [(0, .ref (ad 42)), (1, .int a1), (2, .int v2), (3, .int v3)] → W p l e { frames := 1, cells := 0, slots := 0, locals := 24 } s m args below meth c H locs 0 0 (MQ below (mQ (some (.int q.1)) D 43 ad (mM y ad q.2.1 q.2.2.1 q.2.2.2) s.heap.size) args s 0 0 (mFree 43 ad s.heap.size)) (F0 m 32 ls [])) : ∀ (n : Nat) (th : Int32) (ρ α : mSt) (v2 : Int32) (v3 : Int32) (v4 : Int32) (v5 : Int32), f_X7_leader_49 N a1 rec32 n th ρ α v2 v3 v4 v5 = some q → ∀ (H : Heap) (locs : List Loc) (ls : Array Slot), mV D y (mFree 43 ad s.heap.size) s s.heap H locs 43 ad (mM y ad th ρ α) → lv_has ls 6 [(0, .ref (ad 42)), (1, .int a1), (2, .int v2), (3, .int v3), (4, .int v4), (5, .int v5)] → W p l e { frames := 1, cells := 0, slots := 0, locals := 24 } s m args below meth c H locs 0 0 (MQ below (mQ (some (.int q.1)) D 43 ad (mM y ad q.2.1 q.2.2.1 q.2.2.2) s.heap.size) args s 0 0 (mFree 43 ad s.heap.size)) (F0 m 49 ls []) := by
  obtain ⟨hx, hb, hml, hown, hts, hr, hlk⟩ := id hB
  intro n
  induction n with
  | zero =>
    intro th ρ α v2 v3 v4 v5 h
    exact nomatch h
  | succ n ih =>
    intro th ρ α v2 v3 v4 v5 h H locs ls V hl
    rw [f_X7_leader_49] at h
    refine lv_iload hx hb dX7_leader_49 (lv_at hl 5 rfl) ?_
    refine lv_aload_n hx hb dX7_leader_51 rfl (lv_at hl 0 rfl) ?_
    refine rM_s hx hb hts hown (fun _ h => List.mem_cons_of_mem _ (List.mem_append_left _ (List.mem_append_right _ h))) V (hts _ (List.mem_of_getElem? (i := 2) rfl)) dX7_leader_52 ?_
    refine gM_T hx hb hts hown (fun _ h => List.mem_cons_of_mem _ (List.mem_append_right _ h)) V 1 (by decide) (mN_use (q := (32, "players", "I")) Z 0 rfl) (v := .int (ρ 21 0)) rfl dX7_leader_55 ?_
    refine lv_icmp_ge (tgt := 93) hx hb dX7_leader_58 (by decide) (fun hc10 => ?_) (fun hc10 => ?_)
    · replace h := ite_t hc10 h
      refine lv_iload hx hb dX7_leader_93 (lv_at hl 4 rfl) ?_
      refine lv_iload_n hx hb dX7_leader_95 rfl (lv_at hl 1 rfl) ?_
      refine lv_icmp_ne (tgt := 101) hx hb dX7_leader_96 (by decide) (fun hc11 => ?_) (fun hc11 => ?_)
      · replace h := ite_f hc11 h
        refine lv_iinc (v := v3 + 1) (lv' := [(3, .int (v3 + 1)), (0, .ref (ad 42)), (1, .int a1), (2, .int v2), (4, .int v4), (5, .int v5)]) hx hb dX7_leader_101 hl (k := 3) rfl rfl (by decide) rfl (fun ls hl => ?_)
        refine lv_goto (tgt := 32) hx hb dX7_leader_104 (by decide) ?_
        exact hrec32 _ _ _ _ _ h _ _ _ V (lv_sub hl [1, 2, 3, 0] rfl)
      · replace h := ite_t hc11 h
        refine lv_iload_n hx hb dX7_leader_99 rfl (lv_at hl 3 rfl) ?_
        refine lv_istore_n (lv' := [(2, .int v3), (0, .ref (ad 42)), (1, .int a1), (3, .int v3), (4, .int v4), (5, .int v5)]) hx hb dX7_leader_100 rfl hl (by decide) rfl (fun ls hl => ?_)
        refine lv_iinc (v := v3 + 1) (lv' := [(3, .int (v3 + 1)), (2, .int v3), (0, .ref (ad 42)), (1, .int a1), (4, .int v4), (5, .int v5)]) hx hb dX7_leader_101 hl (k := 3) rfl rfl (by decide) rfl (fun ls hl => ?_)
        refine lv_goto (tgt := 32) hx hb dX7_leader_104 (by decide) ?_
        exact hrec32 _ _ _ _ _ h _ _ _ V (lv_sub hl [2, 3, 1, 0] rfl)
    · replace h := ite_f hc10 h
      refine lv_iload hx hb dX7_leader_61 (lv_at hl 4 rfl) ?_
      refine lv_iload hx hb dX7_leader_63 (lv_at hl 5 rfl) ?_
      refine lv_iload_n hx hb dX7_leader_65 rfl (lv_at hl 3 rfl) ?_
      refine lv_icmp_eq (tgt := 83) hx hb dX7_leader_66 (by decide) (fun hc12 => ?_) (fun hc12 => ?_)
      · replace h := ite_t hc12 h
        exact w_X7_leader_83 Z hB hrec32 ih _ _ _ _ _ _ _ h _ _ _ V (lv_sub hl [0, 1, 2, 3, 5] rfl)
      · replace h := ite_f hc12 h
        refine lv_aload_n hx hb dX7_leader_69 rfl (lv_at hl 0 rfl) ?_
        refine lv_iload hx hb dX7_leader_70 (lv_at hl 5 rfl) ?_
        refine lv_iload_n hx hb dX7_leader_72 rfl (lv_at hl 3 rfl) ?_
        obtain ⟨q13, hq13, h⟩ := bd_s h
        refine kMM (As := [.int v5, .int v3]) (rest := [.int v4]) ⟨hx, hb, hml, hown, hts⟩ Z V (c_X7_isAhead (l := l) (D := D) (y := y) (ad := ad) hq13) (cwV 2 hts gX7_leader_X7_isAhead rfl rfl rfl (by decide +kernel) ⟨Nat.le_of_ble_eq_true rfl, Nat.le_of_ble_eq_true rfl⟩) (by omega) (mM_m y ad _ _ _) rfl rfl hl.1 rfl (Nat.le_of_ble_eq_true rfl) ⟨Nat.zero_le _, Nat.zero_le _⟩ rfl dX7_leader_73 (fun H locs V => ?_)
        refine lv_if_eq (tgt := 83) hx hb dX7_leader_76 (by decide) (fun hc14 => ?_) (fun hc14 => ?_)
        · replace h := ite_t hc14 h
          exact w_X7_leader_83 Z hB hrec32 ih _ _ _ _ _ _ _ h _ _ _ V (lv_sub hl [0, 1, 2, 3, 5] rfl)
        · replace h := ite_f hc14 h
          refine lv_iconst (v := 1) hx hb dX7_leader_79 (by decide) ?_
          refine lv_goto (tgt := 84) hx hb dX7_leader_80 (by decide) ?_
          exact w_X7_leader_84 Z hB hrec32 ih _ _ _ _ _ _ _ _ h _ _ _ V (lv_sub hl [0, 1, 2, 3, 5] rfl)
def f_X7_leader_32 (N : Nat) (a1 : Int32)  : Nat → Int32 → mSt → mSt → Int32 → Int32 → Option (Int32 × Int32 × mSt × mSt)
  | 0, _, _, _, _, _ => none
  | n + 1, th, ρ, α, v2, v3 => if (ρ 21 0) ≤ v3 then some (v2, th, ρ, α) else f_X7_leader_49 N a1 (fun th ρ α v2 v3 => f_X7_leader_32 N a1 n th ρ α v2 v3) N th ρ α v2 v3 0 0
set_option maxHeartbeats 4000000 in
set_option maxRecDepth 100000 in
theorem w_X7_leader_32 {l : Launch} {D : va_G} {y : Nat → ClassId} {ad : Nat → Nat} {N : Nat} {p : Program} {e : Env} {s : State} {m : MethodId} {args : Array Value} {below : List Frame} {meth : Method} {c : Code} (Z : mN (mFree 43 ad s.heap.size) s) (hB : mBd p s m args meth c cX7_leader 6 wsX7_leader RX7 (some .int)) {a1 : Int32} {q : Int32 × Int32 × mSt × mSt}   : ∀ (n : Nat) (th : Int32) (ρ α : mSt) (v2 : Int32) (v3 : Int32), f_X7_leader_32 N a1  n th ρ α v2 v3 = some q → ∀ (H : Heap) (locs : List Loc) (ls : Array Slot), mV D y (mFree 43 ad s.heap.size) s s.heap H locs 43 ad (mM y ad th ρ α) → lv_has ls 6 [(0, .ref (ad 42)), (1, .int a1), (2, .int v2), (3, .int v3)] → W p l e { frames := 1, cells := 0, slots := 0, locals := 24 } s m args below meth c H locs 0 0 (MQ below (mQ (some (.int q.1)) D 43 ad (mM y ad q.2.1 q.2.2.1 q.2.2.2) s.heap.size) args s 0 0 (mFree 43 ad s.heap.size)) (F0 m 32 ls []) := by
  obtain ⟨hx, hb, hml, hown, hts, hr, hlk⟩ := id hB
  intro n
  induction n with
  | zero =>
    intro th ρ α v2 v3 h
    exact nomatch h
  | succ n ih =>
    intro th ρ α v2 v3 h H locs ls V hl
    rw [f_X7_leader_32] at h
    refine lv_iload_n hx hb dX7_leader_32 rfl (lv_at hl 3 rfl) ?_
    refine lv_aload_n hx hb dX7_leader_33 rfl (lv_at hl 0 rfl) ?_
    refine rM_s hx hb hts hown (fun _ h => List.mem_cons_of_mem _ (List.mem_append_left _ (List.mem_append_right _ h))) V (hts _ (List.mem_of_getElem? (i := 2) rfl)) dX7_leader_34 ?_
    refine gM_T hx hb hts hown (fun _ h => List.mem_cons_of_mem _ (List.mem_append_right _ h)) V 1 (by decide) (mN_use (q := (32, "players", "I")) Z 0 rfl) (v := .int (ρ 21 0)) rfl dX7_leader_37 ?_
    refine lv_icmp_ge (tgt := 107) hx hb dX7_leader_40 (by decide) (fun hc15 => ?_) (fun hc15 => ?_)
    · replace h := ite_t hc15 h
      refine lv_iload_n hx hb dX7_leader_107 rfl (lv_at hl 2 rfl) ?_
      obtain rfl := Option.some.inj h
      exact m_iret hx hb hr hlk V (Nat.zero_le _) (Nat.zero_le _) dX7_leader_108
    · replace h := ite_f hc15 h
      refine lv_iconst (v := 0) hx hb dX7_leader_43 (by decide) ?_
      refine lv_istore (lv' := [(4, .int 0), (0, .ref (ad 42)), (1, .int a1), (2, .int v2), (3, .int v3)]) hx hb dX7_leader_44 hl (by decide) rfl (fun ls hl => ?_)
      refine lv_iconst (v := 0) hx hb dX7_leader_46 (by decide) ?_
      refine lv_istore (lv' := [(5, .int 0), (4, .int 0), (0, .ref (ad 42)), (1, .int a1), (2, .int v2), (3, .int v3)]) hx hb dX7_leader_47 hl (by decide) rfl (fun ls hl => ?_)
      exact w_X7_leader_49 Z hB ih _ _ _ _ _ _ _ _ h _ _ _ V (lv_sub hl [2, 3, 4, 5, 1, 0] rfl)
def f_X7_leader (N : Nat) (th : Int32) (ρ α : mSt) (a1 : Int32) : Option (Int32 × Int32 × mSt × mSt) := (f_X7_isIn N 0 ρ α a1 0 ((ρ 21 0) - 1)).bind fun q16 => if q16.1 = 0 then (f_X7_no N q16.2.1 q16.2.2.1 q16.2.2.2 1).bind fun q18 => some (q18.1, q18.2.1, q18.2.2.1, q18.2.2.2) else f_X7_leader_32 N a1 N q16.2.1 q16.2.2.1 q16.2.2.2 (-1) 0
set_option maxHeartbeats 4000000 in
set_option maxRecDepth 100000 in
theorem c_X7_leader {l : Launch} {D : va_G} {y : Nat → ClassId} {ad : Nat → Nat} {N : Nat} {th : Int32} {ρ α : mSt} {a1 : Int32} {q : Int32 × Int32 × mSt × mSt} (h : f_X7_leader N th ρ α a1 = some q) : mC l yX7_leader wsX7_leader { frames := 1, cells := 0, slots := 0, locals := 24 } D y 43 ad mN (mM y ad th ρ α) [.ref (ad 42), .int a1] (some (.int q.1)) (mM y ad q.2.1 q.2.2.1 q.2.2.2) 0 0 := by
  refine m_start (cc := cX7_leader) (maxL := 6) (ret := (some .int)) (by decide) rfl (Nat.le_of_ble_eq_true rfl) (fun p e s m args below meth c ls hB _ V Z hl => ?_)
  obtain ⟨hx, hb, hml, hown, hts, hr, hlk⟩ := id hB
  have hl : lv_has ls 6 [(0, .ref (ad 42)), (1, .int a1)] := hl
  rw [f_X7_leader] at h
  refine lv_aload_n hx hb dX7_leader_0 rfl (lv_at hl 0 rfl) ?_
  refine lv_iconst (v := 0) hx hb dX7_leader_1 (by decide) ?_
  refine pM_th hx hb hts hown (fun _ h => List.mem_cons_of_mem _ (List.mem_append_left _ (List.mem_append_right _ h))) V (hts _ (List.mem_of_getElem? (i := 1) rfl)) dX7_leader_2 (fun H locs V => ?_)
  refine lv_iload_n hx hb dX7_leader_5 rfl (lv_at hl 1 rfl) ?_
  refine lv_iconst (v := 0) hx hb dX7_leader_6 (by decide) ?_
  refine lv_aload_n hx hb dX7_leader_7 rfl (lv_at hl 0 rfl) ?_
  refine rM_s hx hb hts hown (fun _ h => List.mem_cons_of_mem _ (List.mem_append_left _ (List.mem_append_right _ h))) V (hts _ (List.mem_of_getElem? (i := 2) rfl)) dX7_leader_8 ?_
  refine gM_T hx hb hts hown (fun _ h => List.mem_cons_of_mem _ (List.mem_append_right _ h)) V 1 (by decide) (mN_use (q := (32, "players", "I")) Z 0 rfl) (v := .int (ρ 21 0)) rfl dX7_leader_11 ?_
  refine lv_iconst (v := 1) hx hb dX7_leader_14 (by decide) ?_
  refine lv_isub hx hb dX7_leader_15 ?_
  obtain ⟨q16, hq16, h⟩ := bd_s h
  refine kMMs (As := [.int a1, .int 0, .int ((ρ 21 0) - 1)]) (rest := []) ⟨hx, hb, hml, hown, hts⟩ Z V (c_X7_isIn (l := l) (D := D) (y := y) (ad := ad) hq16) (va_cwS 3 hts gX7_leader_X7_isIn rfl rfl rfl (by decide +kernel) ⟨Nat.le_of_ble_eq_true rfl, Nat.le_of_ble_eq_true rfl⟩) rfl hl.1 rfl (Nat.le_of_ble_eq_true rfl) ⟨Nat.zero_le _, Nat.zero_le _⟩ rfl dX7_leader_16 (fun H locs V => ?_)
  refine lv_if_ne (tgt := 28) hx hb dX7_leader_19 (by decide) (fun hc17 => ?_) (fun hc17 => ?_)
  · replace h := ite_f hc17 h
    refine lv_iconst (v := (-1)) hx hb dX7_leader_28 (by decide) ?_
    refine lv_istore_n (lv' := [(2, .int (-1)), (0, .ref (ad 42)), (1, .int a1)]) hx hb dX7_leader_29 rfl hl (by decide) rfl (fun ls hl => ?_)
    refine lv_iconst (v := 0) hx hb dX7_leader_30 (by decide) ?_
    refine lv_istore_n (lv' := [(3, .int 0), (2, .int (-1)), (0, .ref (ad 42)), (1, .int a1)]) hx hb dX7_leader_31 rfl hl (by decide) rfl (fun ls hl => ?_)
    exact w_X7_leader_32 Z hB _ _ _ _ _ _ h _ _ _ V (lv_sub hl [2, 3, 1, 0] rfl)
  · replace h := ite_t hc17 h
    refine lv_aload_n hx hb dX7_leader_22 rfl (lv_at hl 0 rfl) ?_
    refine lv_iconst (v := 1) hx hb dX7_leader_23 (by decide) ?_
    obtain ⟨q18, hq18, h⟩ := bd_s h
    refine kMM (As := [.int 1]) (rest := []) ⟨hx, hb, hml, hown, hts⟩ Z V (c_X7_no (l := l) (D := D) (y := y) (ad := ad) hq18) (cwV 1 hts gX7_leader_X7_no rfl rfl rfl (by decide +kernel) ⟨Nat.le_of_ble_eq_true rfl, Nat.le_of_ble_eq_true rfl⟩) (by omega) (mM_m y ad _ _ _) rfl rfl hl.1 rfl (Nat.le_of_ble_eq_true rfl) ⟨Nat.zero_le _, Nat.zero_le _⟩ rfl dX7_leader_24 (fun H locs V => ?_)
    obtain rfl := Option.some.inj h
    exact m_iret hx hb hr hlk V (Nat.zero_le _) (Nat.zero_le _) dX7_leader_27
-- X7_needs
def f_X7_needs_41 (N : Nat) (a1 : Int32) (a2 : Int32)  : Nat → Int32 → mSt → mSt → Int32 → Int32 → Option (Int32 × Int32 × mSt × mSt)
  | 0, _, _, _, _, _ => none
  | n + 1, th, ρ, α, v3, v4 => if (ρ 22 0) ≤ v4 then some (v3, th, ρ, α) else if mIn v4 16 then (f_X6_runs N ρ v4).bind fun q18 => if q18.1 = 0 then f_X7_needs_41 N a1 a2 n th q18.2 α v3 (v4 + 1) else if mIn ((2 * v4) + (ρ 11 v4.toNatClampNeg)) 32 then if (q18.2 5 ((2 * v4) + (ρ 11 v4.toNatClampNeg)).toNatClampNeg) = a1 then f_X7_needs_41 N a1 a2 n th q18.2 α (v3 + (mMax 0 (((mMax 0 (mMin a2 (((q18.2 13 v4.toNatClampNeg) + a2) - (q18.2 9 v4.toNatClampNeg)))) + 1) - (q18.2 6 ((2 * v4) + (ρ 11 v4.toNatClampNeg)).toNatClampNeg)))) (v4 + 1) else f_X7_needs_41 N a1 a2 n th q18.2 α v3 (v4 + 1) else none else none
set_option maxHeartbeats 4000000 in
set_option maxRecDepth 100000 in
theorem w_X7_needs_41 {l : Launch} {D : va_G} {y : Nat → ClassId} {ad : Nat → Nat} {N : Nat} {p : Program} {e : Env} {s : State} {m : MethodId} {args : Array Value} {below : List Frame} {meth : Method} {c : Code} (Z : mN (mFree 43 ad s.heap.size) s) (hB : mBd p s m args meth c cX7_needs 7 wsX7_needs RX7 (some .int)) {a1 : Int32} {a2 : Int32} {q : Int32 × Int32 × mSt × mSt}   : ∀ (n : Nat) (th : Int32) (ρ α : mSt) (v3 : Int32) (v4 : Int32), f_X7_needs_41 N a1 a2  n th ρ α v3 v4 = some q → ∀ (H : Heap) (locs : List Loc) (ls : Array Slot), mV D y (mFree 43 ad s.heap.size) s s.heap H locs 43 ad (mM y ad th ρ α) → lv_has ls 7 [(0, .ref (ad 42)), (1, .int a1), (2, .int a2), (3, .int v3), (4, .int v4)] → W p l e { frames := 2, cells := 0, slots := 0, locals := 43 } s m args below meth c H locs 0 0 (MQ below (mQ (some (.int q.1)) D 43 ad (mM y ad q.2.1 q.2.2.1 q.2.2.2) s.heap.size) args s 0 0 (mFree 43 ad s.heap.size)) (F0 m 41 ls []) := by
  obtain ⟨hx, hb, hml, hown, hts, hr, hlk⟩ := id hB
  intro n
  induction n with
  | zero =>
    intro th ρ α v3 v4 h
    exact nomatch h
  | succ n ih =>
    intro th ρ α v3 v4 h H locs ls V hl
    rw [f_X7_needs_41] at h
    refine lv_iload hx hb dX7_needs_41 (lv_at hl 4 rfl) ?_
    refine lv_aload_n hx hb dX7_needs_43 rfl (lv_at hl 0 rfl) ?_
    refine rM_s hx hb hts hown (fun _ h => List.mem_cons_of_mem _ (List.mem_append_left _ (List.mem_append_right _ h))) V (hts _ (List.mem_of_getElem? (i := 2) rfl)) dX7_needs_44 ?_
    refine gM_T hx hb hts hown (fun _ h => List.mem_cons_of_mem _ (List.mem_append_right _ h)) V 7 (by decide) (mN_use (q := (51, "games", "I")) Z 6 rfl) (v := .int (ρ 22 0)) rfl dX7_needs_47 ?_
    refine lv_icmp_ge (tgt := 160) hx hb dX7_needs_50 (by decide) (fun hc16 => ?_) (fun hc16 => ?_)
    · replace h := ite_t hc16 h
      refine lv_iload_n hx hb dX7_needs_160 rfl (lv_at hl 3 rfl) ?_
      obtain rfl := Option.some.inj h
      exact m_iret hx hb hr hlk V (Nat.zero_le _) (Nat.zero_le _) dX7_needs_161
    · replace h := ite_f hc16 h
      refine lv_iconst (v := 2) hx hb dX7_needs_53 (by decide) ?_
      refine lv_iload hx hb dX7_needs_54 (lv_at hl 4 rfl) ?_
      refine lv_imul hx hb dX7_needs_56 ?_
      refine lv_aload_n hx hb dX7_needs_57 rfl (lv_at hl 0 rfl) ?_
      refine rM_s hx hb hts hown (fun _ h => List.mem_cons_of_mem _ (List.mem_append_left _ (List.mem_append_right _ h))) V (hts _ (List.mem_of_getElem? (i := 2) rfl)) dX7_needs_58 ?_
      refine gM_T hx hb hts hown (fun _ h => List.mem_cons_of_mem _ (List.mem_append_right _ h)) V 14 (by decide) (mN_use (q := (138, "turn", "[I")) Z 21 rfl) (v := .ref (ad 12)) rfl dX7_needs_61 ?_
      refine lv_iload hx hb dX7_needs_64 (lv_at hl 4 rfl) ?_
      obtain ⟨hi17, h⟩ := gd_s h
      refine aM_I hx hb V 11 12 16 (by decide) rfl rfl hi17 dX7_needs_66 ?_
      refine lv_iadd hx hb dX7_needs_67 ?_
      refine lv_istore (lv' := [(5, .int ((2 * v4) + (ρ 11 v4.toNatClampNeg))), (0, .ref (ad 42)), (1, .int a1), (2, .int a2), (3, .int v3), (4, .int v4)]) hx hb dX7_needs_68 hl (by decide) rfl (fun ls hl => ?_)
      refine lv_aload_n hx hb dX7_needs_70 rfl (lv_at hl 1 rfl) ?_
      refine rM_s hx hb hts hown (fun _ h => List.mem_cons_of_mem _ (List.mem_append_left _ (List.mem_append_right _ h))) V (hts _ (List.mem_of_getElem? (i := 2) rfl)) dX7_needs_71 ?_
      refine lv_iload hx hb dX7_needs_74 (lv_at hl 5 rfl) ?_
      obtain ⟨q18, hq18, h⟩ := bd_s h
      refine kMR (As := [.int v4]) (rest := []) ⟨hx, hb, hml, hown, hts⟩ V (c_X6_runs (l := l) (D := D) (y := y) (ad := ad) hq18) (cwV 1 hts gX7_needs_X6_runs rfl rfl rfl (by decide +kernel) ⟨Nat.le_of_ble_eq_true rfl, Nat.le_of_ble_eq_true rfl⟩) (by omega) ((mM_0 y ad _ _ _ (by omega)).trans (mR_T y ad _)) rfl rfl hl.1 rfl (Nat.le_of_ble_eq_true rfl) ⟨Nat.zero_le _, Nat.zero_le _⟩ rfl dX7_needs_76 (fun H locs V => ?_)
      refine lv_if_eq (tgt := 154) hx hb dX7_needs_79 (by decide) (fun hc19 => ?_) (fun hc19 => ?_)
      · replace h := ite_t hc19 h
        refine lv_iinc (v := v4 + 1) (lv' := [(4, .int (v4 + 1)), (5, .int ((2 * v4) + (ρ 11 v4.toNatClampNeg))), (0, .ref (ad 42)), (1, .int a1), (2, .int a2), (3, .int v3)]) hx hb dX7_needs_154 hl (k := 5) rfl rfl (by decide) rfl (fun ls hl => ?_)
        refine lv_goto (tgt := 41) hx hb dX7_needs_157 (by decide) ?_
        exact ih _ _ _ _ _ h _ _ _ V (lv_sub hl [2, 3, 4, 5, 0] rfl)
      · replace h := ite_f hc19 h
        refine lv_aload_n hx hb dX7_needs_82 rfl (lv_at hl 1 rfl) ?_
        refine rM_s hx hb hts hown (fun _ h => List.mem_cons_of_mem _ (List.mem_append_left _ (List.mem_append_right _ h))) V (hts _ (List.mem_of_getElem? (i := 2) rfl)) dX7_needs_83 ?_
        refine gM_T hx hb hts hown (fun _ h => List.mem_cons_of_mem _ (List.mem_append_right _ h)) V 8 (by decide) (mN_use (q := (58, "player", "[I")) Z 7 rfl) (v := .ref (ad 6)) rfl dX7_needs_86 ?_
        refine lv_iload hx hb dX7_needs_89 (lv_at hl 0 rfl) ?_
        obtain ⟨hi20, h⟩ := gd_s h
        refine aM_I hx hb V 5 6 32 (by decide) rfl rfl hi20 dX7_needs_91 ?_
        refine lv_iload_n hx hb dX7_needs_92 rfl (lv_at hl 2 rfl) ?_
        refine lv_icmp_eq (tgt := 99) hx hb dX7_needs_93 (by decide) (fun hc21 => ?_) (fun hc21 => ?_)
        · replace h := ite_t hc21 h
          refine lv_iconst (v := 0) hx hb dX7_needs_99 (by decide) ?_
          refine lv_iload_n hx hb dX7_needs_100 rfl (lv_at hl 3 rfl) ?_
          refine lv_aload_n hx hb dX7_needs_101 rfl (lv_at hl 1 rfl) ?_
          refine rM_s hx hb hts hown (fun _ h => List.mem_cons_of_mem _ (List.mem_append_left _ (List.mem_append_right _ h))) V (hts _ (List.mem_of_getElem? (i := 2) rfl)) dX7_needs_102 ?_
          refine gM_T hx hb hts hown (fun _ h => List.mem_cons_of_mem _ (List.mem_append_right _ h)) V 16 (by decide) (mN_use (q := (141, "since", "[I")) Z 22 rfl) (v := .ref (ad 14)) rfl dX7_needs_105 ?_
          refine lv_iload hx hb dX7_needs_108 (lv_at hl 5 rfl) ?_
          refine aM_I hx hb V 13 14 16 (by decide) rfl rfl hi17 dX7_needs_110 ?_
          refine lv_iload_n hx hb dX7_needs_111 rfl (lv_at hl 3 rfl) ?_
          refine lv_iadd hx hb dX7_needs_112 ?_
          refine lv_aload_n hx hb dX7_needs_113 rfl (lv_at hl 1 rfl) ?_
          refine rM_s hx hb hts hown (fun _ h => List.mem_cons_of_mem _ (List.mem_append_left _ (List.mem_append_right _ h))) V (hts _ (List.mem_of_getElem? (i := 2) rfl)) dX7_needs_114 ?_
          refine gM_T hx hb hts hown (fun _ h => List.mem_cons_of_mem _ (List.mem_append_right _ h)) V 12 (by decide) (mN_use (q := (129, "delay", "[I")) Z 19 rfl) (v := .ref (ad 10)) rfl dX7_needs_117 ?_
          refine lv_iload hx hb dX7_needs_120 (lv_at hl 5 rfl) ?_
          refine aM_I hx hb V 9 10 16 (by decide) rfl rfl hi17 dX7_needs_122 ?_
          refine lv_isub hx hb dX7_needs_123 ?_
          refine m_min hx hb hml hl.1 hown (hts _ (List.mem_of_getElem? (i := 3) rfl)) (hts _ (List.mem_of_getElem? (i := 4) rfl)) (hts _ (List.mem_of_getElem? (i := 5) rfl)) (hts _ (List.mem_of_getElem? (i := 6) rfl)) (Nat.le_of_ble_eq_true rfl) (Nat.le_of_ble_eq_true rfl) (Nat.zero_le _) (Nat.zero_le _) dX7_needs_124 ?_
          refine m_max hx hb hml hl.1 hown (hts _ (List.mem_of_getElem? (i := 7) rfl)) (hts _ (List.mem_of_getElem? (i := 8) rfl)) (hts _ (List.mem_of_getElem? (i := 5) rfl)) (hts _ (List.mem_of_getElem? (i := 9) rfl)) (Nat.le_of_ble_eq_true rfl) (Nat.le_of_ble_eq_true rfl) (Nat.zero_le _) (Nat.zero_le _) dX7_needs_127 ?_
          refine lv_istore (lv' := [(6, .int (mMax 0 (mMin a2 (((q18.2 13 v4.toNatClampNeg) + a2) - (q18.2 9 v4.toNatClampNeg))))), (5, .int ((2 * v4) + (ρ 11 v4.toNatClampNeg))), (0, .ref (ad 42)), (1, .int a1), (2, .int a2), (3, .int v3), (4, .int v4)]) hx hb dX7_needs_130 hl (by decide) rfl (fun ls hl => ?_)
          refine lv_iload_n hx hb dX7_needs_132 rfl (lv_at hl 5 rfl) ?_
          refine lv_iconst (v := 0) hx hb dX7_needs_133 (by decide) ?_
          refine lv_iload hx hb dX7_needs_134 (lv_at hl 0 rfl) ?_
          refine lv_iconst (v := 1) hx hb dX7_needs_136 (by decide) ?_
          refine lv_iadd hx hb dX7_needs_137 ?_
          refine lv_aload_n hx hb dX7_needs_138 rfl (lv_at hl 2 rfl) ?_
          refine rM_s hx hb hts hown (fun _ h => List.mem_cons_of_mem _ (List.mem_append_left _ (List.mem_append_right _ h))) V (hts _ (List.mem_of_getElem? (i := 2) rfl)) dX7_needs_139 ?_
          refine gM_T hx hb hts hown (fun _ h => List.mem_cons_of_mem _ (List.mem_append_right _ h)) V 9 (by decide) (mN_use (q := (123, "clock", "[I")) Z 17 rfl) (v := .ref (ad 7)) rfl dX7_needs_142 ?_
          refine lv_iload hx hb dX7_needs_145 (lv_at hl 1 rfl) ?_
          refine aM_I hx hb V 6 7 32 (by decide) rfl rfl hi20 dX7_needs_147 ?_
          refine lv_isub hx hb dX7_needs_148 ?_
          refine m_max hx hb hml hl.1 hown (hts _ (List.mem_of_getElem? (i := 7) rfl)) (hts _ (List.mem_of_getElem? (i := 8) rfl)) (hts _ (List.mem_of_getElem? (i := 5) rfl)) (hts _ (List.mem_of_getElem? (i := 9) rfl)) (Nat.le_of_ble_eq_true rfl) (Nat.le_of_ble_eq_true rfl) (Nat.zero_le _) (Nat.zero_le _) dX7_needs_149 ?_
          refine lv_iadd hx hb dX7_needs_152 ?_
          refine lv_istore_n (lv' := [(3, .int (v3 + (mMax 0 (((mMax 0 (mMin a2 (((q18.2 13 v4.toNatClampNeg) + a2) - (q18.2 9 v4.toNatClampNeg)))) + 1) - (q18.2 6 ((2 * v4) + (ρ 11 v4.toNatClampNeg)).toNatClampNeg))))), (6, .int (mMax 0 (mMin a2 (((q18.2 13 v4.toNatClampNeg) + a2) - (q18.2 9 v4.toNatClampNeg))))), (5, .int ((2 * v4) + (ρ 11 v4.toNatClampNeg))), (0, .ref (ad 42)), (1, .int a1), (2, .int a2), (4, .int v4)]) hx hb dX7_needs_153 rfl hl (by decide) rfl (fun ls hl => ?_)
          refine lv_iinc (v := v4 + 1) (lv' := [(4, .int (v4 + 1)), (3, .int (v3 + (mMax 0 (((mMax 0 (mMin a2 (((q18.2 13 v4.toNatClampNeg) + a2) - (q18.2 9 v4.toNatClampNeg)))) + 1) - (q18.2 6 ((2 * v4) + (ρ 11 v4.toNatClampNeg)).toNatClampNeg))))), (6, .int (mMax 0 (mMin a2 (((q18.2 13 v4.toNatClampNeg) + a2) - (q18.2 9 v4.toNatClampNeg))))), (5, .int ((2 * v4) + (ρ 11 v4.toNatClampNeg))), (0, .ref (ad 42)), (1, .int a1), (2, .int a2)]) hx hb dX7_needs_154 hl (k := 6) rfl rfl (by decide) rfl (fun ls hl => ?_)
          refine lv_goto (tgt := 41) hx hb dX7_needs_157 (by decide) ?_
          exact ih _ _ _ _ _ h _ _ _ V (lv_sub hl [4, 5, 6, 1, 0] rfl)
        · replace h := ite_f hc21 h
          refine lv_goto (tgt := 154) hx hb dX7_needs_96 (by decide) ?_
          refine lv_iinc (v := v4 + 1) (lv' := [(4, .int (v4 + 1)), (5, .int ((2 * v4) + (ρ 11 v4.toNatClampNeg))), (0, .ref (ad 42)), (1, .int a1), (2, .int a2), (3, .int v3)]) hx hb dX7_needs_154 hl (k := 5) rfl rfl (by decide) rfl (fun ls hl => ?_)
          refine lv_goto (tgt := 41) hx hb dX7_needs_157 (by decide) ?_
          exact ih _ _ _ _ _ h _ _ _ V (lv_sub hl [2, 3, 4, 5, 0] rfl)
def f_X7_needs (N : Nat) (th : Int32) (ρ α : mSt) (a1 : Int32) (a2 : Int32) : Option (Int32 × Int32 × mSt × mSt) := (f_X7_isPlayer N 0 ρ α a1).bind fun q25 => if q25.1 = 0 then (f_X7_no N q25.2.1 q25.2.2.1 q25.2.2.2 1).bind fun q30 => some (q30.1, q30.2.1, q30.2.2.1, q30.2.2.2) else (f_X7_isIn N q25.2.1 q25.2.2.1 q25.2.2.2 a2 1 600).bind fun q27 => if q27.1 = 0 then (f_X7_no N q27.2.1 q27.2.2.1 q27.2.2.2 2).bind fun q29 => some (q29.1, q29.2.1, q29.2.2.1, q29.2.2.2) else f_X7_needs_41 N a1 a2 N q27.2.1 q27.2.2.1 q27.2.2.2 0 0
set_option maxHeartbeats 4000000 in
set_option maxRecDepth 100000 in
theorem c_X7_needs {l : Launch} {D : va_G} {y : Nat → ClassId} {ad : Nat → Nat} {N : Nat} {th : Int32} {ρ α : mSt} {a1 : Int32} {a2 : Int32} {q : Int32 × Int32 × mSt × mSt} (h : f_X7_needs N th ρ α a1 a2 = some q) : mC l yX7_needs wsX7_needs { frames := 2, cells := 0, slots := 0, locals := 43 } D y 43 ad mN (mM y ad th ρ α) [.ref (ad 42), .int a1, .int a2] (some (.int q.1)) (mM y ad q.2.1 q.2.2.1 q.2.2.2) 0 0 := by
  refine m_start (cc := cX7_needs) (maxL := 7) (ret := (some .int)) (by decide) rfl (Nat.le_of_ble_eq_true rfl) (fun p e s m args below meth c ls hB _ V Z hl => ?_)
  obtain ⟨hx, hb, hml, hown, hts, hr, hlk⟩ := id hB
  have hl : lv_has ls 7 [(0, .ref (ad 42)), (1, .int a1), (2, .int a2)] := hl
  rw [f_X7_needs] at h
  refine lv_aload_n hx hb dX7_needs_0 rfl (lv_at hl 0 rfl) ?_
  refine lv_iconst (v := 0) hx hb dX7_needs_1 (by decide) ?_
  refine pM_th hx hb hts hown (fun _ h => List.mem_cons_of_mem _ (List.mem_append_left _ (List.mem_append_right _ h))) V (hts _ (List.mem_of_getElem? (i := 1) rfl)) dX7_needs_2 (fun H locs V => ?_)
  refine lv_aload_n hx hb dX7_needs_5 rfl (lv_at hl 0 rfl) ?_
  refine lv_iload_n hx hb dX7_needs_6 rfl (lv_at hl 1 rfl) ?_
  obtain ⟨q25, hq25, h⟩ := bd_s h
  refine kMM (As := [.int a1]) (rest := []) ⟨hx, hb, hml, hown, hts⟩ Z V (c_X7_isPlayer (l := l) (D := D) (y := y) (ad := ad) hq25) (cwV 1 hts gX7_needs_X7_isPlayer rfl rfl rfl (by decide +kernel) ⟨Nat.le_of_ble_eq_true rfl, Nat.le_of_ble_eq_true rfl⟩) (by omega) (mM_m y ad _ _ _) rfl rfl hl.1 rfl (Nat.le_of_ble_eq_true rfl) ⟨Nat.zero_le _, Nat.zero_le _⟩ rfl dX7_needs_7 (fun H locs V => ?_)
  refine lv_if_ne (tgt := 19) hx hb dX7_needs_10 (by decide) (fun hc26 => ?_) (fun hc26 => ?_)
  · replace h := ite_f hc26 h
    refine lv_iload_n hx hb dX7_needs_19 rfl (lv_at hl 2 rfl) ?_
    refine lv_iconst (v := 1) hx hb dX7_needs_20 (by decide) ?_
    refine lv_sipush (v := 600) hx hb dX7_needs_21 (by decide) ?_
    obtain ⟨q27, hq27, h⟩ := bd_s h
    refine kMMs (As := [.int a2, .int 1, .int 600]) (rest := []) ⟨hx, hb, hml, hown, hts⟩ Z V (c_X7_isIn (l := l) (D := D) (y := y) (ad := ad) hq27) (va_cwS 3 hts gX7_needs_X7_isIn rfl rfl rfl (by decide +kernel) ⟨Nat.le_of_ble_eq_true rfl, Nat.le_of_ble_eq_true rfl⟩) rfl hl.1 rfl (Nat.le_of_ble_eq_true rfl) ⟨Nat.zero_le _, Nat.zero_le _⟩ rfl dX7_needs_24 (fun H locs V => ?_)
    refine lv_if_ne (tgt := 36) hx hb dX7_needs_27 (by decide) (fun hc28 => ?_) (fun hc28 => ?_)
    · replace h := ite_f hc28 h
      refine lv_iconst (v := 0) hx hb dX7_needs_36 (by decide) ?_
      refine lv_istore_n (lv' := [(3, .int 0), (0, .ref (ad 42)), (1, .int a1), (2, .int a2)]) hx hb dX7_needs_37 rfl hl (by decide) rfl (fun ls hl => ?_)
      refine lv_iconst (v := 0) hx hb dX7_needs_38 (by decide) ?_
      refine lv_istore (lv' := [(4, .int 0), (3, .int 0), (0, .ref (ad 42)), (1, .int a1), (2, .int a2)]) hx hb dX7_needs_39 hl (by decide) rfl (fun ls hl => ?_)
      exact w_X7_needs_41 Z hB _ _ _ _ _ _ h _ _ _ V (lv_sub hl [2, 3, 4, 1, 0] rfl)
    · replace h := ite_t hc28 h
      refine lv_aload_n hx hb dX7_needs_30 rfl (lv_at hl 0 rfl) ?_
      refine lv_iconst (v := 2) hx hb dX7_needs_31 (by decide) ?_
      obtain ⟨q29, hq29, h⟩ := bd_s h
      refine kMM (As := [.int 2]) (rest := []) ⟨hx, hb, hml, hown, hts⟩ Z V (c_X7_no (l := l) (D := D) (y := y) (ad := ad) hq29) (cwV 1 hts gX7_needs_X7_no rfl rfl rfl (by decide +kernel) ⟨Nat.le_of_ble_eq_true rfl, Nat.le_of_ble_eq_true rfl⟩) (by omega) (mM_m y ad _ _ _) rfl rfl hl.1 rfl (Nat.le_of_ble_eq_true rfl) ⟨Nat.zero_le _, Nat.zero_le _⟩ rfl dX7_needs_32 (fun H locs V => ?_)
      obtain rfl := Option.some.inj h
      exact m_iret hx hb hr hlk V (Nat.zero_le _) (Nat.zero_le _) dX7_needs_35
  · replace h := ite_t hc26 h
    refine lv_aload_n hx hb dX7_needs_13 rfl (lv_at hl 0 rfl) ?_
    refine lv_iconst (v := 1) hx hb dX7_needs_14 (by decide) ?_
    obtain ⟨q30, hq30, h⟩ := bd_s h
    refine kMM (As := [.int 1]) (rest := []) ⟨hx, hb, hml, hown, hts⟩ Z V (c_X7_no (l := l) (D := D) (y := y) (ad := ad) hq30) (cwV 1 hts gX7_needs_X7_no rfl rfl rfl (by decide +kernel) ⟨Nat.le_of_ble_eq_true rfl, Nat.le_of_ble_eq_true rfl⟩) (by omega) (mM_m y ad _ _ _) rfl rfl hl.1 rfl (Nat.le_of_ble_eq_true rfl) ⟨Nat.zero_le _, Nat.zero_le _⟩ rfl dX7_needs_15 (fun H locs V => ?_)
    obtain rfl := Option.some.inj h
    exact m_iret hx hb hr hlk V (Nat.zero_le _) (Nat.zero_le _) dX7_needs_18
-- X7_mean
def f_X7_mean_50 (N : Nat)  (rec9 : Int32 → mSt → mSt → Int64 → Int32 → Option (UInt64 × Int32 × mSt × mSt)) (th : Int32) (ρ α : mSt) (v3 : Int32) (s0 : Int64) (s1 : Int64) : Option (UInt64 × Int32 × mSt × mSt) := rec9 th ρ α (s0 + s1) (v3 + 1)
set_option maxHeartbeats 4000000 in
set_option maxRecDepth 100000 in
theorem w_X7_mean_50 {l : Launch} {D : va_G} {y : Nat → ClassId} {ad : Nat → Nat} {N : Nat} {p : Program} {e : Env} {s : State} {m : MethodId} {args : Array Value} {below : List Frame} {meth : Method} {c : Code} (Z : mN (mFree 43 ad s.heap.size) s) (hB : mBd p s m args meth c cX7_mean 4 wsX7_mean RX7 (some .double))  {q : UInt64 × Int32 × mSt × mSt} {rec9 : Int32 → mSt → mSt → Int64 → Int32 → Option (UInt64 × Int32 × mSt × mSt)} (hrec9 : ∀ (th : Int32) (ρ α : mSt) (v1 : Int64) (v3 : Int32), rec9 th ρ α v1 v3 = some q → ∀ (H : Heap) (locs : List Loc) (ls : Array Slot), mV D y (mFree 43 ad s.heap.size) s s.heap H locs 43 ad (mM y ad th ρ α) → lv_has ls 4 [(0, .ref (ad 42)), (1, .long v1), (3, .int v3)] → W p l e { frames := 2, cells := 0, slots := 0, locals := 44 } s m args below meth c H locs 0 0 (MQ below (mQ (some (.double q.1)) D 43 ad (mM y ad q.2.1 q.2.2.1 q.2.2.2) s.heap.size) args s 0 0 (mFree 43 ad s.heap.size)) (F0 m 9 ls [])) : ∀ (th : Int32) (ρ α : mSt) (v3 : Int32) (s0 : Int64) (s1 : Int64), f_X7_mean_50 N  rec9 th ρ α v3 s0 s1 = some q → ∀ (H : Heap) (locs : List Loc) (ls : Array Slot), mV D y (mFree 43 ad s.heap.size) s s.heap H locs 43 ad (mM y ad th ρ α) → lv_has ls 4 [(0, .ref (ad 42)), (3, .int v3)] → W p l e { frames := 2, cells := 0, slots := 0, locals := 44 } s m args below meth c H locs 0 0 (MQ below (mQ (some (.double q.1)) D 43 ad (mM y ad q.2.1 q.2.2.1 q.2.2.2) s.heap.size) args s 0 0 (mFree 43 ad s.heap.size)) (F0 m 50 ls [.long s1, .long s0]) := by
  obtain ⟨hx, hb, hml, hown, hts, hr, hlk⟩ := id hB
  intro th ρ α v3 s0 s1 h H locs ls V hl
  rw [f_X7_mean_50] at h
  refine lv_ladd hx hb dX7_mean_50 ?_
  refine lv_lstore_n (lv' := [(1, .long (s0 + s1)), (0, .ref (ad 42)), (3, .int v3)]) hx hb dX7_mean_51 rfl hl (by decide) rfl (fun ls hl => ?_)
  refine lv_iinc (v := v3 + 1) (lv' := [(3, .int (v3 + 1)), (1, .long (s0 + s1)), (0, .ref (ad 42))]) hx hb dX7_mean_52 hl (k := 2) rfl rfl (by decide) rfl (fun ls hl => ?_)
  refine lv_goto (tgt := 9) hx hb dX7_mean_55 (by decide) ?_
  exact hrec9 _ _ _ _ _ h _ _ _ V (lv_sub hl [2, 1, 0] rfl)
def f_X7_mean_9 (N : Nat)   : Nat → Int32 → mSt → mSt → Int64 → Int32 → Option (UInt64 × Int32 × mSt × mSt)
  | 0, _, _, _, _, _ => none
  | n + 1, th, ρ, α, v1, v3 => if (2 * (ρ 22 0)) ≤ v3 then (f_X7_running N th ρ α (-1)).bind fun q10 => if q10.1 = 0 then some (FP.dconst0, q10.2.1, q10.2.2.1, q10.2.2.2) else (f_X7_running N q10.2.1 q10.2.2.1 q10.2.2.2 (-1)).bind fun q12 => if (FP.ddiv (FP.l2d v1) (FP.i2d (2 * q12.1))) &&& 0x7fffffffffffffff ≤ 0x7ff0000000000000 then some (FP.ddiv (FP.l2d v1) (FP.i2d (2 * q12.1)), q12.2.1, q12.2.2.1, q12.2.2.2) else none else (f_X6_runs N ρ (v3 / 2)).bind fun q14 => if q14.1 = 0 then f_X7_mean_50 N (fun th ρ α v1 v3 => f_X7_mean_9 N n th ρ α v1 v3) th q14.2 α v3 v1 0 else if mIn v3 32 then f_X7_mean_50 N (fun th ρ α v1 v3 => f_X7_mean_9 N n th ρ α v1 v3) th q14.2 α v3 v1 ((q14.2 6 v3.toNatClampNeg).toInt64) else none
set_option maxHeartbeats 4000000 in
set_option maxRecDepth 100000 in
theorem w_X7_mean_9 {l : Launch} {D : va_G} {y : Nat → ClassId} {ad : Nat → Nat} {N : Nat} {p : Program} {e : Env} {s : State} {m : MethodId} {args : Array Value} {below : List Frame} {meth : Method} {c : Code} (Z : mN (mFree 43 ad s.heap.size) s) (hB : mBd p s m args meth c cX7_mean 4 wsX7_mean RX7 (some .double))  {q : UInt64 × Int32 × mSt × mSt}   : ∀ (n : Nat) (th : Int32) (ρ α : mSt) (v1 : Int64) (v3 : Int32), f_X7_mean_9 N   n th ρ α v1 v3 = some q → ∀ (H : Heap) (locs : List Loc) (ls : Array Slot), mV D y (mFree 43 ad s.heap.size) s s.heap H locs 43 ad (mM y ad th ρ α) → lv_has ls 4 [(0, .ref (ad 42)), (1, .long v1), (3, .int v3)] → W p l e { frames := 2, cells := 0, slots := 0, locals := 44 } s m args below meth c H locs 0 0 (MQ below (mQ (some (.double q.1)) D 43 ad (mM y ad q.2.1 q.2.2.1 q.2.2.2) s.heap.size) args s 0 0 (mFree 43 ad s.heap.size)) (F0 m 9 ls []) := by
  obtain ⟨hx, hb, hml, hown, hts, hr, hlk⟩ := id hB
  intro n
  induction n with
  | zero =>
    intro th ρ α v1 v3 h
    exact nomatch h
  | succ n ih =>
    intro th ρ α v1 v3 h H locs ls V hl
    rw [f_X7_mean_9] at h
    refine lv_iload_n hx hb dX7_mean_9 rfl (lv_at hl 2 rfl) ?_
    refine lv_iconst (v := 2) hx hb dX7_mean_10 (by decide) ?_
    refine lv_aload_n hx hb dX7_mean_11 rfl (lv_at hl 0 rfl) ?_
    refine rM_s hx hb hts hown (fun _ h => List.mem_cons_of_mem _ (List.mem_append_left _ (List.mem_append_right _ h))) V (hts _ (List.mem_of_getElem? (i := 2) rfl)) dX7_mean_12 ?_
    refine gM_T hx hb hts hown (fun _ h => List.mem_cons_of_mem _ (List.mem_append_right _ h)) V 7 (by decide) (mN_use (q := (51, "games", "I")) Z 6 rfl) (v := .int (ρ 22 0)) rfl dX7_mean_15 ?_
    refine lv_imul hx hb dX7_mean_18 ?_
    refine lv_icmp_ge (tgt := 58) hx hb dX7_mean_19 (by decide) (fun hc9 => ?_) (fun hc9 => ?_)
    · replace h := ite_t hc9 h
      refine lv_aload_n hx hb dX7_mean_58 rfl (lv_at hl 0 rfl) ?_
      refine lv_iconst (v := (-1)) hx hb dX7_mean_59 (by decide) ?_
      obtain ⟨q10, hq10, h⟩ := bd_s h
      refine kMM (As := [.int (-1)]) (rest := []) ⟨hx, hb, hml, hown, hts⟩ Z V (c_X7_running (l := l) (D := D) (y := y) (ad := ad) hq10) (cwV 1 hts gX7_mean_X7_running rfl rfl rfl (by decide +kernel) ⟨Nat.le_of_ble_eq_true rfl, Nat.le_of_ble_eq_true rfl⟩) (by omega) (mM_m y ad _ _ _) rfl rfl hl.1 rfl (Nat.le_of_ble_eq_true rfl) ⟨Nat.zero_le _, Nat.zero_le _⟩ rfl dX7_mean_60 (fun H locs V => ?_)
      refine lv_if_ne (tgt := 70) hx hb dX7_mean_63 (by decide) (fun hc11 => ?_) (fun hc11 => ?_)
      · replace h := ite_f hc11 h
        refine lv_lload_n hx hb dX7_mean_70 rfl (lv_at hl 1 rfl) ?_
        refine lv_l2d hx hb dX7_mean_71 ?_
        refine lv_iconst (v := 2) hx hb dX7_mean_72 (by decide) ?_
        refine lv_aload_n hx hb dX7_mean_73 rfl (lv_at hl 0 rfl) ?_
        refine lv_iconst (v := (-1)) hx hb dX7_mean_74 (by decide) ?_
        obtain ⟨q12, hq12, h⟩ := bd_s h
        refine kMM (As := [.int (-1)]) (rest := [.int 2, .double (FP.l2d v1)]) ⟨hx, hb, hml, hown, hts⟩ Z V (c_X7_running (l := l) (D := D) (y := y) (ad := ad) hq12) (cwV 1 hts gX7_mean_X7_running rfl rfl rfl (by decide +kernel) ⟨Nat.le_of_ble_eq_true rfl, Nat.le_of_ble_eq_true rfl⟩) (by omega) (mM_m y ad _ _ _) rfl rfl hl.1 rfl (Nat.le_of_ble_eq_true rfl) ⟨Nat.zero_le _, Nat.zero_le _⟩ rfl dX7_mean_75 (fun H locs V => ?_)
        refine lv_imul hx hb dX7_mean_78 ?_
        refine lv_i2d hx hb dX7_mean_79 ?_
        obtain ⟨hv13, h⟩ := gd_s h
        refine lv_ddiv hx hb dX7_mean_80 hv13 ?_
        obtain rfl := Option.some.inj h
        exact m_dret hx hb hr hlk V (Nat.zero_le _) (Nat.zero_le _) dX7_mean_81
      · replace h := ite_t hc11 h
        refine lv_dconst0 hx hb dX7_mean_66 ?_
        refine lv_goto (tgt := 81) hx hb dX7_mean_67 (by decide) ?_
        obtain rfl := Option.some.inj h
        exact m_dret hx hb hr hlk V (Nat.zero_le _) (Nat.zero_le _) dX7_mean_81
    · replace h := ite_f hc9 h
      refine lv_lload_n hx hb dX7_mean_22 rfl (lv_at hl 1 rfl) ?_
      refine lv_aload_n hx hb dX7_mean_23 rfl (lv_at hl 0 rfl) ?_
      refine rM_s hx hb hts hown (fun _ h => List.mem_cons_of_mem _ (List.mem_append_left _ (List.mem_append_right _ h))) V (hts _ (List.mem_of_getElem? (i := 2) rfl)) dX7_mean_24 ?_
      refine lv_iload_n hx hb dX7_mean_27 rfl (lv_at hl 2 rfl) ?_
      refine lv_iconst (v := 2) hx hb dX7_mean_28 (by decide) ?_
      refine lv_idiv hx hb dX7_mean_29 (by decide) ?_
      obtain ⟨q14, hq14, h⟩ := bd_s h
      refine kMR (As := [.int (v3 / 2)]) (rest := [.long v1]) ⟨hx, hb, hml, hown, hts⟩ V (c_X6_runs (l := l) (D := D) (y := y) (ad := ad) hq14) (cwV 1 hts gX7_mean_X6_runs rfl rfl rfl (by decide +kernel) ⟨Nat.le_of_ble_eq_true rfl, Nat.le_of_ble_eq_true rfl⟩) (by omega) ((mM_0 y ad _ _ _ (by omega)).trans (mR_T y ad _)) rfl rfl hl.1 rfl (Nat.le_of_ble_eq_true rfl) ⟨Nat.zero_le _, Nat.zero_le _⟩ rfl dX7_mean_30 (fun H locs V => ?_)
      refine lv_if_eq (tgt := 49) hx hb dX7_mean_33 (by decide) (fun hc15 => ?_) (fun hc15 => ?_)
      · replace h := ite_t hc15 h
        refine lv_lconst (v := 0) hx hb dX7_mean_49 (by decide) ?_
        exact w_X7_mean_50 Z hB ih _ _ _ _ _ _ h _ _ _ V (lv_sub hl [0, 2] rfl)
      · replace h := ite_f hc15 h
        refine lv_aload_n hx hb dX7_mean_36 rfl (lv_at hl 0 rfl) ?_
        refine rM_s hx hb hts hown (fun _ h => List.mem_cons_of_mem _ (List.mem_append_left _ (List.mem_append_right _ h))) V (hts _ (List.mem_of_getElem? (i := 2) rfl)) dX7_mean_37 ?_
        refine gM_T hx hb hts hown (fun _ h => List.mem_cons_of_mem _ (List.mem_append_right _ h)) V 9 (by decide) (mN_use (q := (123, "clock", "[I")) Z 17 rfl) (v := .ref (ad 7)) rfl dX7_mean_40 ?_
        refine lv_iload_n hx hb dX7_mean_43 rfl (lv_at hl 2 rfl) ?_
        obtain ⟨hi16, h⟩ := gd_s h
        refine aM_I hx hb V 6 7 32 (by decide) rfl rfl hi16 dX7_mean_44 ?_
        refine lv_i2l hx hb dX7_mean_45 rfl ?_
        refine lv_goto (tgt := 50) hx hb dX7_mean_46 (by decide) ?_
        exact w_X7_mean_50 Z hB ih _ _ _ _ _ _ h _ _ _ V (lv_sub hl [0, 2] rfl)
def f_X7_mean (N : Nat) (th : Int32) (ρ α : mSt)  : Option (UInt64 × Int32 × mSt × mSt) := f_X7_mean_9 N N 0 ρ α 0 0
set_option maxHeartbeats 4000000 in
set_option maxRecDepth 100000 in
theorem c_X7_mean {l : Launch} {D : va_G} {y : Nat → ClassId} {ad : Nat → Nat} {N : Nat} {th : Int32} {ρ α : mSt}  {q : UInt64 × Int32 × mSt × mSt} (h : f_X7_mean N th ρ α = some q) : mC l yX7_mean wsX7_mean { frames := 2, cells := 0, slots := 0, locals := 44 } D y 43 ad mN (mM y ad th ρ α) [.ref (ad 42)] (some (.double q.1)) (mM y ad q.2.1 q.2.2.1 q.2.2.2) 0 0 := by
  refine m_start (cc := cX7_mean) (maxL := 4) (ret := (some .double)) (by decide) rfl (Nat.le_of_ble_eq_true rfl) (fun p e s m args below meth c ls hB _ V Z hl => ?_)
  obtain ⟨hx, hb, hml, hown, hts, hr, hlk⟩ := id hB
  have hl : lv_has ls 4 [(0, .ref (ad 42))] := hl
  rw [f_X7_mean] at h
  refine lv_aload_n hx hb dX7_mean_0 rfl (lv_at hl 0 rfl) ?_
  refine lv_iconst (v := 0) hx hb dX7_mean_1 (by decide) ?_
  refine pM_th hx hb hts hown (fun _ h => List.mem_cons_of_mem _ (List.mem_append_left _ (List.mem_append_right _ h))) V (hts _ (List.mem_of_getElem? (i := 1) rfl)) dX7_mean_2 (fun H locs V => ?_)
  refine lv_lconst (v := 0) hx hb dX7_mean_5 (by decide) ?_
  refine lv_lstore_n (lv' := [(1, .long 0), (0, .ref (ad 42))]) hx hb dX7_mean_6 rfl hl (by decide) rfl (fun ls hl => ?_)
  refine lv_iconst (v := 0) hx hb dX7_mean_7 (by decide) ?_
  refine lv_istore_n (lv' := [(3, .int 0), (1, .long 0), (0, .ref (ad 42))]) hx hb dX7_mean_8 rfl hl (by decide) rfl (fun ls hl => ?_)
  exact w_X7_mean_9 Z hB _ _ _ _ _ _ h _ _ _ V (lv_sub hl [2, 1, 0] rfl)
-- X7_digest
def f_X7_digest_151 (N : Nat)  (rec137 : Int32 → mSt → mSt → Int64 → Int32 → Option (Int64 × Int32 × mSt × mSt)) : Nat → Int32 → mSt → mSt → Int64 → Int32 → Int32 → Option (Int64 × Int32 × mSt × mSt)
  | 0, _, _, _, _, _, _ => none
  | n + 1, th, ρ, α, v1, v3, v4 => if 11 ≤ v4 then rec137 th ρ α v1 (v3 + 1) else (f_X7_gameTold N th ρ α v3 v4).bind fun q13 => f_X7_digest_151 N rec137 n q13.2.1 q13.2.2.1 q13.2.2.2 ((v1 * 31) + q13.1.toInt64) v3 (v4 + 1)
set_option maxHeartbeats 4000000 in
set_option maxRecDepth 100000 in
theorem w_X7_digest_151 {l : Launch} {D : va_G} {y : Nat → ClassId} {ad : Nat → Nat} {N : Nat} {p : Program} {e : Env} {s : State} {m : MethodId} {args : Array Value} {below : List Frame} {meth : Method} {c : Code} (Z : mN (mFree 43 ad s.heap.size) s) (hB : mBd p s m args meth c cX7_digest 5 wsX7_digest RX7 (some .long))  {q : Int64 × Int32 × mSt × mSt} {rec137 : Int32 → mSt → mSt → Int64 → Int32 → Option (Int64 × Int32 × mSt × mSt)} (Kc Ks : Nat) (hrec137 : ∀ (th : Int32) (ρ α : mSt) (v1 : Int64) (v3 : Int32), rec137 th ρ α v1 v3 = some q → ∀ (cells slots : Nat), cells + Kc ≤ 138 → slots + Ks ≤ 762 → ∀ (H : Heap) (locs : List Loc) (ls : Array Slot), mV D y (mFree 43 ad s.heap.size) s s.heap H locs 43 ad (mM y ad th ρ α) → lv_has ls 5 [(0, .ref (ad 42)), (1, .long v1), (3, .int v3)] → W p l e { frames := 3, cells := 138, slots := 762, locals := 68 } s m args below meth c H locs cells slots (MQ below (mQ (some (.long q.1)) D 43 ad (mM y ad q.2.1 q.2.2.1 q.2.2.2) s.heap.size) args s 138 762 (mFree 43 ad s.heap.size)) (F0 m 137 ls [])) : ∀ (n : Nat) (th : Int32) (ρ α : mSt) (v1 : Int64) (v3 : Int32) (v4 : Int32), f_X7_digest_151 N  rec137 n th ρ α v1 v3 v4 = some q → ∀ (cells slots : Nat), cells + (n * 0 + Kc) ≤ 138 → slots + (n * 0 + Ks) ≤ 762 → ∀ (H : Heap) (locs : List Loc) (ls : Array Slot), mV D y (mFree 43 ad s.heap.size) s s.heap H locs 43 ad (mM y ad th ρ α) → lv_has ls 5 [(0, .ref (ad 42)), (1, .long v1), (3, .int v3), (4, .int v4)] → W p l e { frames := 3, cells := 138, slots := 762, locals := 68 } s m args below meth c H locs cells slots (MQ below (mQ (some (.long q.1)) D 43 ad (mM y ad q.2.1 q.2.2.1 q.2.2.2) s.heap.size) args s 138 762 (mFree 43 ad s.heap.size)) (F0 m 151 ls []) := by
  obtain ⟨hx, hb, hml, hown, hts, hr, hlk⟩ := id hB
  intro n
  induction n with
  | zero =>
    intro th ρ α v1 v3 v4 h
    exact nomatch h
  | succ n ih =>
    intro th ρ α v1 v3 v4 h cells slots hcc hss H locs ls V hl
    rw [f_X7_digest_151] at h
    refine lv_iload hx hb dX7_digest_151 (lv_at hl 3 rfl) ?_
    refine lv_bipush (v := 11) hx hb dX7_digest_153 (by decide) ?_
    refine lv_icmp_ge (tgt := 179) hx hb dX7_digest_155 (by decide) (fun hc12 => ?_) (fun hc12 => ?_)
    · replace h := ite_t hc12 h
      refine lv_iinc (v := v3 + 1) (lv' := [(3, .int (v3 + 1)), (0, .ref (ad 42)), (1, .long v1), (4, .int v4)]) hx hb dX7_digest_179 hl (k := 2) rfl rfl (by decide) rfl (fun ls hl => ?_)
      refine lv_goto (tgt := 137) hx hb dX7_digest_182 (by decide) ?_
      exact hrec137 _ _ _ _ _ h _ _ (by omega) (by omega) _ _ _ V (lv_sub hl [1, 2, 0] rfl)
    · replace h := ite_f hc12 h
      refine lv_lload_n hx hb dX7_digest_158 rfl (lv_at hl 1 rfl) ?_
      refine lv_ldc2 (v := 31) hx hb hown (hts _ (List.mem_of_getElem? (i := 3) rfl)) dX7_digest_159 ?_
      refine lv_lmul hx hb dX7_digest_162 ?_
      refine lv_aload_n hx hb dX7_digest_163 rfl (lv_at hl 0 rfl) ?_
      refine lv_iload_n hx hb dX7_digest_164 rfl (lv_at hl 2 rfl) ?_
      refine lv_iload hx hb dX7_digest_165 (lv_at hl 3 rfl) ?_
      obtain ⟨q13, hq13, h⟩ := bd_s h
      refine kMM (As := [.int v3, .int v4]) (rest := [.long (v1 * 31)]) ⟨hx, hb, hml, hown, hts⟩ Z V (c_X7_gameTold (l := l) (D := D) (y := y) (ad := ad) hq13) (cwV 2 hts gX7_digest_X7_gameTold rfl rfl rfl (by decide +kernel) ⟨Nat.le_of_ble_eq_true rfl, Nat.le_of_ble_eq_true rfl⟩) (by omega) (mM_m y ad _ _ _) rfl rfl hl.1 rfl (Nat.le_of_ble_eq_true rfl) ⟨(show cells + 0 ≤ 138 by omega), (show slots + 0 ≤ 762 by omega)⟩ rfl dX7_digest_167 (fun H locs V => ?_)
      refine lv_i2l hx hb dX7_digest_170 rfl ?_
      refine lv_ladd hx hb dX7_digest_171 ?_
      refine lv_lstore_n (lv' := [(1, .long ((v1 * 31) + q13.1.toInt64)), (0, .ref (ad 42)), (3, .int v3), (4, .int v4)]) hx hb dX7_digest_172 rfl hl (by decide) rfl (fun ls hl => ?_)
      refine lv_iinc (v := v4 + 1) (lv' := [(4, .int (v4 + 1)), (1, .long ((v1 * 31) + q13.1.toInt64)), (0, .ref (ad 42)), (3, .int v3)]) hx hb dX7_digest_173 hl (k := 3) rfl rfl (by decide) rfl (fun ls hl => ?_)
      refine lv_goto (tgt := 151) hx hb dX7_digest_176 (by decide) ?_
      exact ih _ _ _ _ _ _ h _ _ (by omega) (by omega) _ _ _ V (lv_sub hl [2, 1, 3, 0] rfl)
def f_X7_digest_137 (N : Nat)   : Nat → Int32 → mSt → mSt → Int64 → Int32 → Option (Int64 × Int32 × mSt × mSt)
  | 0, _, _, _, _, _ => none
  | n + 1, th, ρ, α, v1, v3 => if (ρ 22 0) ≤ v3 then some (v1, th, ρ, α) else f_X7_digest_151 N (fun th ρ α v1 v3 => f_X7_digest_137 N n th ρ α v1 v3) 12 th ρ α v1 v3 0
set_option maxHeartbeats 4000000 in
set_option maxRecDepth 100000 in
theorem w_X7_digest_137 {l : Launch} {D : va_G} {y : Nat → ClassId} {ad : Nat → Nat} {N : Nat} {p : Program} {e : Env} {s : State} {m : MethodId} {args : Array Value} {below : List Frame} {meth : Method} {c : Code} (Z : mN (mFree 43 ad s.heap.size) s) (hB : mBd p s m args meth c cX7_digest 5 wsX7_digest RX7 (some .long))  {q : Int64 × Int32 × mSt × mSt}   : ∀ (n : Nat) (th : Int32) (ρ α : mSt) (v1 : Int64) (v3 : Int32), f_X7_digest_137 N   n th ρ α v1 v3 = some q → ∀ (cells slots : Nat), cells + (n * 0 + 0) ≤ 138 → slots + (n * 0 + 0) ≤ 762 → ∀ (H : Heap) (locs : List Loc) (ls : Array Slot), mV D y (mFree 43 ad s.heap.size) s s.heap H locs 43 ad (mM y ad th ρ α) → lv_has ls 5 [(0, .ref (ad 42)), (1, .long v1), (3, .int v3)] → W p l e { frames := 3, cells := 138, slots := 762, locals := 68 } s m args below meth c H locs cells slots (MQ below (mQ (some (.long q.1)) D 43 ad (mM y ad q.2.1 q.2.2.1 q.2.2.2) s.heap.size) args s 138 762 (mFree 43 ad s.heap.size)) (F0 m 137 ls []) := by
  obtain ⟨hx, hb, hml, hown, hts, hr, hlk⟩ := id hB
  intro n
  induction n with
  | zero =>
    intro th ρ α v1 v3 h
    exact nomatch h
  | succ n ih =>
    intro th ρ α v1 v3 h cells slots hcc hss H locs ls V hl
    rw [f_X7_digest_137] at h
    refine lv_iload_n hx hb dX7_digest_137 rfl (lv_at hl 2 rfl) ?_
    refine lv_aload_n hx hb dX7_digest_138 rfl (lv_at hl 0 rfl) ?_
    refine rM_s hx hb hts hown (fun _ h => List.mem_cons_of_mem _ (List.mem_append_left _ (List.mem_append_right _ h))) V (hts _ (List.mem_of_getElem? (i := 4) rfl)) dX7_digest_139 ?_
    refine gM_T hx hb hts hown (fun _ h => List.mem_cons_of_mem _ (List.mem_append_right _ h)) V 7 (by decide) (mN_use (q := (51, "games", "I")) Z 6 rfl) (v := .int (ρ 22 0)) rfl dX7_digest_142 ?_
    refine lv_icmp_ge (tgt := 185) hx hb dX7_digest_145 (by decide) (fun hc14 => ?_) (fun hc14 => ?_)
    · replace h := ite_t hc14 h
      refine lv_lload_n hx hb dX7_digest_185 rfl (lv_at hl 1 rfl) ?_
      obtain rfl := Option.some.inj h
      exact m_lret hx hb hr hlk V ((show cells ≤ 138 by omega)) ((show slots ≤ 762 by omega)) dX7_digest_186
    · replace h := ite_f hc14 h
      refine lv_iconst (v := 0) hx hb dX7_digest_148 (by decide) ?_
      refine lv_istore (lv' := [(4, .int 0), (0, .ref (ad 42)), (1, .long v1), (3, .int v3)]) hx hb dX7_digest_149 hl (by decide) rfl (fun ls hl => ?_)
      exact w_X7_digest_151 Z hB (n * 0 + 0) (n * 0 + 0) ih _ _ _ _ _ _ _ h _ _ (by omega) (by omega) _ _ _ V (lv_sub hl [1, 2, 3, 0] rfl)
def f_X7_digest_102 (N : Nat)  (rec88 : Int32 → mSt → mSt → Int64 → Int32 → Option (Int64 × Int32 × mSt × mSt)) : Nat → Int32 → mSt → mSt → Int64 → Int32 → Int32 → Option (Int64 × Int32 × mSt × mSt)
  | 0, _, _, _, _, _, _ => none
  | n + 1, th, ρ, α, v1, v3, v4 => if 5 ≤ v4 then rec88 th ρ α v1 (v3 + 1) else (f_X7_loanTold N th ρ α v3 v4).bind fun q16 => f_X7_digest_102 N rec88 n q16.2.1 q16.2.2.1 q16.2.2.2 ((v1 * 31) + q16.1.toInt64) v3 (v4 + 1)
set_option maxHeartbeats 4000000 in
set_option maxRecDepth 100000 in
theorem w_X7_digest_102 {l : Launch} {D : va_G} {y : Nat → ClassId} {ad : Nat → Nat} {N : Nat} {p : Program} {e : Env} {s : State} {m : MethodId} {args : Array Value} {below : List Frame} {meth : Method} {c : Code} (Z : mN (mFree 43 ad s.heap.size) s) (hB : mBd p s m args meth c cX7_digest 5 wsX7_digest RX7 (some .long))  {q : Int64 × Int32 × mSt × mSt} {rec88 : Int32 → mSt → mSt → Int64 → Int32 → Option (Int64 × Int32 × mSt × mSt)} (Kc Ks : Nat) (hrec88 : ∀ (th : Int32) (ρ α : mSt) (v1 : Int64) (v3 : Int32), rec88 th ρ α v1 v3 = some q → ∀ (cells slots : Nat), cells + Kc ≤ 138 → slots + Ks ≤ 762 → ∀ (H : Heap) (locs : List Loc) (ls : Array Slot), mV D y (mFree 43 ad s.heap.size) s s.heap H locs 43 ad (mM y ad th ρ α) → lv_has ls 5 [(0, .ref (ad 42)), (1, .long v1), (3, .int v3)] → W p l e { frames := 3, cells := 138, slots := 762, locals := 68 } s m args below meth c H locs cells slots (MQ below (mQ (some (.long q.1)) D 43 ad (mM y ad q.2.1 q.2.2.1 q.2.2.2) s.heap.size) args s 138 762 (mFree 43 ad s.heap.size)) (F0 m 88 ls [])) : ∀ (n : Nat) (th : Int32) (ρ α : mSt) (v1 : Int64) (v3 : Int32) (v4 : Int32), f_X7_digest_102 N  rec88 n th ρ α v1 v3 v4 = some q → ∀ (cells slots : Nat), cells + (n * 1 + Kc) ≤ 138 → slots + (n * 5 + Ks) ≤ 762 → ∀ (H : Heap) (locs : List Loc) (ls : Array Slot), mV D y (mFree 43 ad s.heap.size) s s.heap H locs 43 ad (mM y ad th ρ α) → lv_has ls 5 [(0, .ref (ad 42)), (1, .long v1), (3, .int v3), (4, .int v4)] → W p l e { frames := 3, cells := 138, slots := 762, locals := 68 } s m args below meth c H locs cells slots (MQ below (mQ (some (.long q.1)) D 43 ad (mM y ad q.2.1 q.2.2.1 q.2.2.2) s.heap.size) args s 138 762 (mFree 43 ad s.heap.size)) (F0 m 102 ls []) := by
  obtain ⟨hx, hb, hml, hown, hts, hr, hlk⟩ := id hB
  intro n
  induction n with
  | zero =>
    intro th ρ α v1 v3 v4 h
    exact nomatch h
  | succ n ih =>
    intro th ρ α v1 v3 v4 h cells slots hcc hss H locs ls V hl
    rw [f_X7_digest_102] at h
    refine lv_iload hx hb dX7_digest_102 (lv_at hl 3 rfl) ?_
    refine lv_iconst (v := 5) hx hb dX7_digest_104 (by decide) ?_
    refine lv_icmp_ge (tgt := 129) hx hb dX7_digest_105 (by decide) (fun hc15 => ?_) (fun hc15 => ?_)
    · replace h := ite_t hc15 h
      refine lv_iinc (v := v3 + 1) (lv' := [(3, .int (v3 + 1)), (0, .ref (ad 42)), (1, .long v1), (4, .int v4)]) hx hb dX7_digest_129 hl (k := 2) rfl rfl (by decide) rfl (fun ls hl => ?_)
      refine lv_goto (tgt := 88) hx hb dX7_digest_132 (by decide) ?_
      exact hrec88 _ _ _ _ _ h _ _ (by omega) (by omega) _ _ _ V (lv_sub hl [1, 2, 0] rfl)
    · replace h := ite_f hc15 h
      refine lv_lload_n hx hb dX7_digest_108 rfl (lv_at hl 1 rfl) ?_
      refine lv_ldc2 (v := 31) hx hb hown (hts _ (List.mem_of_getElem? (i := 3) rfl)) dX7_digest_109 ?_
      refine lv_lmul hx hb dX7_digest_112 ?_
      refine lv_aload_n hx hb dX7_digest_113 rfl (lv_at hl 0 rfl) ?_
      refine lv_iload_n hx hb dX7_digest_114 rfl (lv_at hl 2 rfl) ?_
      refine lv_iload hx hb dX7_digest_115 (lv_at hl 3 rfl) ?_
      obtain ⟨q16, hq16, h⟩ := bd_s h
      refine kMM (As := [.int v3, .int v4]) (rest := [.long (v1 * 31)]) ⟨hx, hb, hml, hown, hts⟩ Z V (c_X7_loanTold (l := l) (D := D) (y := y) (ad := ad) hq16) (cwV 2 hts gX7_digest_X7_loanTold rfl rfl rfl (by decide +kernel) ⟨Nat.le_of_ble_eq_true rfl, Nat.le_of_ble_eq_true rfl⟩) (by omega) (mM_m y ad _ _ _) rfl rfl hl.1 rfl (Nat.le_of_ble_eq_true rfl) ⟨(show cells + 1 ≤ 138 by omega), (show slots + 5 ≤ 762 by omega)⟩ rfl dX7_digest_117 (fun H locs V => ?_)
      refine lv_i2l hx hb dX7_digest_120 rfl ?_
      refine lv_ladd hx hb dX7_digest_121 ?_
      refine lv_lstore_n (lv' := [(1, .long ((v1 * 31) + q16.1.toInt64)), (0, .ref (ad 42)), (3, .int v3), (4, .int v4)]) hx hb dX7_digest_122 rfl hl (by decide) rfl (fun ls hl => ?_)
      refine lv_iinc (v := v4 + 1) (lv' := [(4, .int (v4 + 1)), (1, .long ((v1 * 31) + q16.1.toInt64)), (0, .ref (ad 42)), (3, .int v3)]) hx hb dX7_digest_123 hl (k := 3) rfl rfl (by decide) rfl (fun ls hl => ?_)
      refine lv_goto (tgt := 102) hx hb dX7_digest_126 (by decide) ?_
      exact ih _ _ _ _ _ _ h _ _ (by omega) (by omega) _ _ _ V (lv_sub hl [2, 1, 3, 0] rfl)
def f_X7_digest_88 (N : Nat)   : Nat → Int32 → mSt → mSt → Int64 → Int32 → Option (Int64 × Int32 × mSt × mSt)
  | 0, _, _, _, _, _ => none
  | n + 1, th, ρ, α, v1, v3 => if (ρ 23 0) ≤ v3 then f_X7_digest_137 N 17 th ρ α v1 0 else f_X7_digest_102 N (fun th ρ α v1 v3 => f_X7_digest_88 N n th ρ α v1 v3) 6 th ρ α v1 v3 0
set_option maxHeartbeats 4000000 in
set_option maxRecDepth 100000 in
theorem w_X7_digest_88 {l : Launch} {D : va_G} {y : Nat → ClassId} {ad : Nat → Nat} {N : Nat} {p : Program} {e : Env} {s : State} {m : MethodId} {args : Array Value} {below : List Frame} {meth : Method} {c : Code} (Z : mN (mFree 43 ad s.heap.size) s) (hB : mBd p s m args meth c cX7_digest 5 wsX7_digest RX7 (some .long))  {q : Int64 × Int32 × mSt × mSt}   : ∀ (n : Nat) (th : Int32) (ρ α : mSt) (v1 : Int64) (v3 : Int32), f_X7_digest_88 N   n th ρ α v1 v3 = some q → ∀ (cells slots : Nat), cells + (n * 6 + 0) ≤ 138 → slots + (n * 30 + 0) ≤ 762 → ∀ (H : Heap) (locs : List Loc) (ls : Array Slot), mV D y (mFree 43 ad s.heap.size) s s.heap H locs 43 ad (mM y ad th ρ α) → lv_has ls 5 [(0, .ref (ad 42)), (1, .long v1), (3, .int v3)] → W p l e { frames := 3, cells := 138, slots := 762, locals := 68 } s m args below meth c H locs cells slots (MQ below (mQ (some (.long q.1)) D 43 ad (mM y ad q.2.1 q.2.2.1 q.2.2.2) s.heap.size) args s 138 762 (mFree 43 ad s.heap.size)) (F0 m 88 ls []) := by
  obtain ⟨hx, hb, hml, hown, hts, hr, hlk⟩ := id hB
  intro n
  induction n with
  | zero =>
    intro th ρ α v1 v3 h
    exact nomatch h
  | succ n ih =>
    intro th ρ α v1 v3 h cells slots hcc hss H locs ls V hl
    rw [f_X7_digest_88] at h
    refine lv_iload_n hx hb dX7_digest_88 rfl (lv_at hl 2 rfl) ?_
    refine lv_aload_n hx hb dX7_digest_89 rfl (lv_at hl 0 rfl) ?_
    refine rM_s hx hb hts hown (fun _ h => List.mem_cons_of_mem _ (List.mem_append_left _ (List.mem_append_right _ h))) V (hts _ (List.mem_of_getElem? (i := 4) rfl)) dX7_digest_90 ?_
    refine gM_T hx hb hts hown (fun _ h => List.mem_cons_of_mem _ (List.mem_append_right _ h)) V 18 (by decide) (mN_use (q := (39, "loans", "I")) Z 2 rfl) (v := .int (ρ 23 0)) rfl dX7_digest_93 ?_
    refine lv_icmp_ge (tgt := 135) hx hb dX7_digest_96 (by decide) (fun hc17 => ?_) (fun hc17 => ?_)
    · replace h := ite_t hc17 h
      refine lv_iconst (v := 0) hx hb dX7_digest_135 (by decide) ?_
      refine lv_istore_n (lv' := [(3, .int 0), (0, .ref (ad 42)), (1, .long v1)]) hx hb dX7_digest_136 rfl hl (by decide) rfl (fun ls hl => ?_)
      exact w_X7_digest_137 Z hB _ _ _ _ _ _ h _ _ (by omega) (by omega) _ _ _ V (lv_sub hl [1, 2, 0] rfl)
    · replace h := ite_f hc17 h
      refine lv_iconst (v := 0) hx hb dX7_digest_99 (by decide) ?_
      refine lv_istore (lv' := [(4, .int 0), (0, .ref (ad 42)), (1, .long v1), (3, .int v3)]) hx hb dX7_digest_100 hl (by decide) rfl (fun ls hl => ?_)
      exact w_X7_digest_102 Z hB (n * 6 + 0) (n * 30 + 0) ih _ _ _ _ _ _ _ h _ _ (by omega) (by omega) _ _ _ V (lv_sub hl [1, 2, 3, 0] rfl)
def f_X7_digest_52 (N : Nat)  (rec38 : Int32 → mSt → mSt → Int64 → Int32 → Option (Int64 × Int32 × mSt × mSt)) : Nat → Int32 → mSt → mSt → Int64 → Int32 → Int32 → Option (Int64 × Int32 × mSt × mSt)
  | 0, _, _, _, _, _, _ => none
  | n + 1, th, ρ, α, v1, v3, v4 => if 8 ≤ v4 then rec38 th ρ α v1 (v3 + 1) else (f_X7_playerTold N th ρ α v3 v4).bind fun q19 => f_X7_digest_52 N rec38 n q19.2.1 q19.2.2.1 q19.2.2.2 ((v1 * 31) + q19.1.toInt64) v3 (v4 + 1)
set_option maxHeartbeats 4000000 in
set_option maxRecDepth 100000 in
theorem w_X7_digest_52 {l : Launch} {D : va_G} {y : Nat → ClassId} {ad : Nat → Nat} {N : Nat} {p : Program} {e : Env} {s : State} {m : MethodId} {args : Array Value} {below : List Frame} {meth : Method} {c : Code} (Z : mN (mFree 43 ad s.heap.size) s) (hB : mBd p s m args meth c cX7_digest 5 wsX7_digest RX7 (some .long))  {q : Int64 × Int32 × mSt × mSt} {rec38 : Int32 → mSt → mSt → Int64 → Int32 → Option (Int64 × Int32 × mSt × mSt)} (Kc Ks : Nat) (hrec38 : ∀ (th : Int32) (ρ α : mSt) (v1 : Int64) (v3 : Int32), rec38 th ρ α v1 v3 = some q → ∀ (cells slots : Nat), cells + Kc ≤ 138 → slots + Ks ≤ 762 → ∀ (H : Heap) (locs : List Loc) (ls : Array Slot), mV D y (mFree 43 ad s.heap.size) s s.heap H locs 43 ad (mM y ad th ρ α) → lv_has ls 5 [(0, .ref (ad 42)), (1, .long v1), (3, .int v3)] → W p l e { frames := 3, cells := 138, slots := 762, locals := 68 } s m args below meth c H locs cells slots (MQ below (mQ (some (.long q.1)) D 43 ad (mM y ad q.2.1 q.2.2.1 q.2.2.2) s.heap.size) args s 138 762 (mFree 43 ad s.heap.size)) (F0 m 38 ls [])) : ∀ (n : Nat) (th : Int32) (ρ α : mSt) (v1 : Int64) (v3 : Int32) (v4 : Int32), f_X7_digest_52 N  rec38 n th ρ α v1 v3 v4 = some q → ∀ (cells slots : Nat), cells + (n * 0 + Kc) ≤ 138 → slots + (n * 0 + Ks) ≤ 762 → ∀ (H : Heap) (locs : List Loc) (ls : Array Slot), mV D y (mFree 43 ad s.heap.size) s s.heap H locs 43 ad (mM y ad th ρ α) → lv_has ls 5 [(0, .ref (ad 42)), (1, .long v1), (3, .int v3), (4, .int v4)] → W p l e { frames := 3, cells := 138, slots := 762, locals := 68 } s m args below meth c H locs cells slots (MQ below (mQ (some (.long q.1)) D 43 ad (mM y ad q.2.1 q.2.2.1 q.2.2.2) s.heap.size) args s 138 762 (mFree 43 ad s.heap.size)) (F0 m 52 ls []) := by
  obtain ⟨hx, hb, hml, hown, hts, hr, hlk⟩ := id hB
  intro n
  induction n with
  | zero =>
    intro th ρ α v1 v3 v4 h
    exact nomatch h
  | succ n ih =>
    intro th ρ α v1 v3 v4 h cells slots hcc hss H locs ls V hl
    rw [f_X7_digest_52] at h
    refine lv_iload hx hb dX7_digest_52 (lv_at hl 3 rfl) ?_
    refine lv_bipush (v := 8) hx hb dX7_digest_54 (by decide) ?_
    refine lv_icmp_ge (tgt := 80) hx hb dX7_digest_56 (by decide) (fun hc18 => ?_) (fun hc18 => ?_)
    · replace h := ite_t hc18 h
      refine lv_iinc (v := v3 + 1) (lv' := [(3, .int (v3 + 1)), (0, .ref (ad 42)), (1, .long v1), (4, .int v4)]) hx hb dX7_digest_80 hl (k := 2) rfl rfl (by decide) rfl (fun ls hl => ?_)
      refine lv_goto (tgt := 38) hx hb dX7_digest_83 (by decide) ?_
      exact hrec38 _ _ _ _ _ h _ _ (by omega) (by omega) _ _ _ V (lv_sub hl [1, 2, 0] rfl)
    · replace h := ite_f hc18 h
      refine lv_lload_n hx hb dX7_digest_59 rfl (lv_at hl 1 rfl) ?_
      refine lv_ldc2 (v := 31) hx hb hown (hts _ (List.mem_of_getElem? (i := 3) rfl)) dX7_digest_60 ?_
      refine lv_lmul hx hb dX7_digest_63 ?_
      refine lv_aload_n hx hb dX7_digest_64 rfl (lv_at hl 0 rfl) ?_
      refine lv_iload_n hx hb dX7_digest_65 rfl (lv_at hl 2 rfl) ?_
      refine lv_iload hx hb dX7_digest_66 (lv_at hl 3 rfl) ?_
      obtain ⟨q19, hq19, h⟩ := bd_s h
      refine kMM (As := [.int v3, .int v4]) (rest := [.long (v1 * 31)]) ⟨hx, hb, hml, hown, hts⟩ Z V (c_X7_playerTold (l := l) (D := D) (y := y) (ad := ad) hq19) (cwV 2 hts gX7_digest_X7_playerTold rfl rfl rfl (by decide +kernel) ⟨Nat.le_of_ble_eq_true rfl, Nat.le_of_ble_eq_true rfl⟩) (by omega) (mM_m y ad _ _ _) rfl rfl hl.1 rfl (Nat.le_of_ble_eq_true rfl) ⟨(show cells + 0 ≤ 138 by omega), (show slots + 0 ≤ 762 by omega)⟩ rfl dX7_digest_68 (fun H locs V => ?_)
      refine lv_i2l hx hb dX7_digest_71 rfl ?_
      refine lv_ladd hx hb dX7_digest_72 ?_
      refine lv_lstore_n (lv' := [(1, .long ((v1 * 31) + q19.1.toInt64)), (0, .ref (ad 42)), (3, .int v3), (4, .int v4)]) hx hb dX7_digest_73 rfl hl (by decide) rfl (fun ls hl => ?_)
      refine lv_iinc (v := v4 + 1) (lv' := [(4, .int (v4 + 1)), (1, .long ((v1 * 31) + q19.1.toInt64)), (0, .ref (ad 42)), (3, .int v3)]) hx hb dX7_digest_74 hl (k := 3) rfl rfl (by decide) rfl (fun ls hl => ?_)
      refine lv_goto (tgt := 52) hx hb dX7_digest_77 (by decide) ?_
      exact ih _ _ _ _ _ _ h _ _ (by omega) (by omega) _ _ _ V (lv_sub hl [2, 1, 3, 0] rfl)
def f_X7_digest_38 (N : Nat)   : Nat → Int32 → mSt → mSt → Int64 → Int32 → Option (Int64 × Int32 × mSt × mSt)
  | 0, _, _, _, _, _ => none
  | n + 1, th, ρ, α, v1, v3 => if (ρ 21 0) ≤ v3 then f_X7_digest_88 N 21 th ρ α v1 0 else f_X7_digest_52 N (fun th ρ α v1 v3 => f_X7_digest_38 N n th ρ α v1 v3) 9 th ρ α v1 v3 0
set_option maxHeartbeats 4000000 in
set_option maxRecDepth 100000 in
theorem w_X7_digest_38 {l : Launch} {D : va_G} {y : Nat → ClassId} {ad : Nat → Nat} {N : Nat} {p : Program} {e : Env} {s : State} {m : MethodId} {args : Array Value} {below : List Frame} {meth : Method} {c : Code} (Z : mN (mFree 43 ad s.heap.size) s) (hB : mBd p s m args meth c cX7_digest 5 wsX7_digest RX7 (some .long))  {q : Int64 × Int32 × mSt × mSt}   : ∀ (n : Nat) (th : Int32) (ρ α : mSt) (v1 : Int64) (v3 : Int32), f_X7_digest_38 N   n th ρ α v1 v3 = some q → ∀ (cells slots : Nat), cells + (n * 0 + 126) ≤ 138 → slots + (n * 0 + 630) ≤ 762 → ∀ (H : Heap) (locs : List Loc) (ls : Array Slot), mV D y (mFree 43 ad s.heap.size) s s.heap H locs 43 ad (mM y ad th ρ α) → lv_has ls 5 [(0, .ref (ad 42)), (1, .long v1), (3, .int v3)] → W p l e { frames := 3, cells := 138, slots := 762, locals := 68 } s m args below meth c H locs cells slots (MQ below (mQ (some (.long q.1)) D 43 ad (mM y ad q.2.1 q.2.2.1 q.2.2.2) s.heap.size) args s 138 762 (mFree 43 ad s.heap.size)) (F0 m 38 ls []) := by
  obtain ⟨hx, hb, hml, hown, hts, hr, hlk⟩ := id hB
  intro n
  induction n with
  | zero =>
    intro th ρ α v1 v3 h
    exact nomatch h
  | succ n ih =>
    intro th ρ α v1 v3 h cells slots hcc hss H locs ls V hl
    rw [f_X7_digest_38] at h
    refine lv_iload_n hx hb dX7_digest_38 rfl (lv_at hl 2 rfl) ?_
    refine lv_aload_n hx hb dX7_digest_39 rfl (lv_at hl 0 rfl) ?_
    refine rM_s hx hb hts hown (fun _ h => List.mem_cons_of_mem _ (List.mem_append_left _ (List.mem_append_right _ h))) V (hts _ (List.mem_of_getElem? (i := 4) rfl)) dX7_digest_40 ?_
    refine gM_T hx hb hts hown (fun _ h => List.mem_cons_of_mem _ (List.mem_append_right _ h)) V 1 (by decide) (mN_use (q := (32, "players", "I")) Z 0 rfl) (v := .int (ρ 21 0)) rfl dX7_digest_43 ?_
    refine lv_icmp_ge (tgt := 86) hx hb dX7_digest_46 (by decide) (fun hc20 => ?_) (fun hc20 => ?_)
    · replace h := ite_t hc20 h
      refine lv_iconst (v := 0) hx hb dX7_digest_86 (by decide) ?_
      refine lv_istore_n (lv' := [(3, .int 0), (0, .ref (ad 42)), (1, .long v1)]) hx hb dX7_digest_87 rfl hl (by decide) rfl (fun ls hl => ?_)
      exact w_X7_digest_88 Z hB _ _ _ _ _ _ h _ _ (by omega) (by omega) _ _ _ V (lv_sub hl [1, 2, 0] rfl)
    · replace h := ite_f hc20 h
      refine lv_iconst (v := 0) hx hb dX7_digest_49 (by decide) ?_
      refine lv_istore (lv' := [(4, .int 0), (0, .ref (ad 42)), (1, .long v1), (3, .int v3)]) hx hb dX7_digest_50 hl (by decide) rfl (fun ls hl => ?_)
      exact w_X7_digest_52 Z hB (n * 0 + 126) (n * 0 + 630) ih _ _ _ _ _ _ _ h _ _ (by omega) (by omega) _ _ _ V (lv_sub hl [1, 2, 3, 0] rfl)
def f_X7_digest_11 (N : Nat)   : Nat → Int32 → mSt → mSt → Int64 → Int32 → Option (Int64 × Int32 × mSt × mSt)
  | 0, _, _, _, _, _ => none
  | n + 1, th, ρ, α, v1, v3 => if 11 ≤ v3 then f_X7_digest_38 N 9 th ρ α v1 0 else (f_X7_counted N th ρ α v3).bind fun q22 => f_X7_digest_11 N n q22.2.1 q22.2.2.1 q22.2.2.2 ((v1 * 31) + q22.1.toInt64) (v3 + 1)
set_option maxHeartbeats 4000000 in
set_option maxRecDepth 100000 in
theorem w_X7_digest_11 {l : Launch} {D : va_G} {y : Nat → ClassId} {ad : Nat → Nat} {N : Nat} {p : Program} {e : Env} {s : State} {m : MethodId} {args : Array Value} {below : List Frame} {meth : Method} {c : Code} (Z : mN (mFree 43 ad s.heap.size) s) (hB : mBd p s m args meth c cX7_digest 5 wsX7_digest RX7 (some .long))  {q : Int64 × Int32 × mSt × mSt}   : ∀ (n : Nat) (th : Int32) (ρ α : mSt) (v1 : Int64) (v3 : Int32), f_X7_digest_11 N   n th ρ α v1 v3 = some q → ∀ (cells slots : Nat), cells + (n * 1 + 126) ≤ 138 → slots + (n * 11 + 630) ≤ 762 → ∀ (H : Heap) (locs : List Loc) (ls : Array Slot), mV D y (mFree 43 ad s.heap.size) s s.heap H locs 43 ad (mM y ad th ρ α) → lv_has ls 5 [(0, .ref (ad 42)), (1, .long v1), (3, .int v3)] → W p l e { frames := 3, cells := 138, slots := 762, locals := 68 } s m args below meth c H locs cells slots (MQ below (mQ (some (.long q.1)) D 43 ad (mM y ad q.2.1 q.2.2.1 q.2.2.2) s.heap.size) args s 138 762 (mFree 43 ad s.heap.size)) (F0 m 11 ls []) := by
  obtain ⟨hx, hb, hml, hown, hts, hr, hlk⟩ := id hB
  intro n
  induction n with
  | zero =>
    intro th ρ α v1 v3 h
    exact nomatch h
  | succ n ih =>
    intro th ρ α v1 v3 h cells slots hcc hss H locs ls V hl
    rw [f_X7_digest_11] at h
    refine lv_iload_n hx hb dX7_digest_11 rfl (lv_at hl 2 rfl) ?_
    refine lv_bipush (v := 11) hx hb dX7_digest_12 (by decide) ?_
    refine lv_icmp_ge (tgt := 36) hx hb dX7_digest_14 (by decide) (fun hc21 => ?_) (fun hc21 => ?_)
    · replace h := ite_t hc21 h
      refine lv_iconst (v := 0) hx hb dX7_digest_36 (by decide) ?_
      refine lv_istore_n (lv' := [(3, .int 0), (0, .ref (ad 42)), (1, .long v1)]) hx hb dX7_digest_37 rfl hl (by decide) rfl (fun ls hl => ?_)
      exact w_X7_digest_38 Z hB _ _ _ _ _ _ h _ _ (by omega) (by omega) _ _ _ V (lv_sub hl [1, 2, 0] rfl)
    · replace h := ite_f hc21 h
      refine lv_lload_n hx hb dX7_digest_17 rfl (lv_at hl 1 rfl) ?_
      refine lv_ldc2 (v := 31) hx hb hown (hts _ (List.mem_of_getElem? (i := 3) rfl)) dX7_digest_18 ?_
      refine lv_lmul hx hb dX7_digest_21 ?_
      refine lv_aload_n hx hb dX7_digest_22 rfl (lv_at hl 0 rfl) ?_
      refine lv_iload_n hx hb dX7_digest_23 rfl (lv_at hl 2 rfl) ?_
      obtain ⟨q22, hq22, h⟩ := bd_s h
      refine kMM (As := [.int v3]) (rest := [.long (v1 * 31)]) ⟨hx, hb, hml, hown, hts⟩ Z V (c_X7_counted (l := l) (D := D) (y := y) (ad := ad) hq22) (cwV 1 hts gX7_digest_X7_counted rfl rfl rfl (by decide +kernel) ⟨Nat.le_of_ble_eq_true rfl, Nat.le_of_ble_eq_true rfl⟩) (by omega) (mM_m y ad _ _ _) rfl rfl hl.1 rfl (Nat.le_of_ble_eq_true rfl) ⟨(show cells + 1 ≤ 138 by omega), (show slots + 11 ≤ 762 by omega)⟩ rfl dX7_digest_24 (fun H locs V => ?_)
      refine lv_i2l hx hb dX7_digest_27 rfl ?_
      refine lv_ladd hx hb dX7_digest_28 ?_
      refine lv_lstore_n (lv' := [(1, .long ((v1 * 31) + q22.1.toInt64)), (0, .ref (ad 42)), (3, .int v3)]) hx hb dX7_digest_29 rfl hl (by decide) rfl (fun ls hl => ?_)
      refine lv_iinc (v := v3 + 1) (lv' := [(3, .int (v3 + 1)), (1, .long ((v1 * 31) + q22.1.toInt64)), (0, .ref (ad 42))]) hx hb dX7_digest_30 hl (k := 2) rfl rfl (by decide) rfl (fun ls hl => ?_)
      refine lv_goto (tgt := 11) hx hb dX7_digest_33 (by decide) ?_
      exact ih _ _ _ _ _ h _ _ (by omega) (by omega) _ _ _ V (lv_sub hl [2, 1, 0] rfl)
def f_X7_digest (N : Nat) (th : Int32) (ρ α : mSt)  : Option (Int64 × Int32 × mSt × mSt) := f_X7_digest_11 N 12 0 ρ α 509 0
set_option maxHeartbeats 4000000 in
set_option maxRecDepth 100000 in
theorem c_X7_digest {l : Launch} {D : va_G} {y : Nat → ClassId} {ad : Nat → Nat} {N : Nat} {th : Int32} {ρ α : mSt}  {q : Int64 × Int32 × mSt × mSt} (h : f_X7_digest N th ρ α = some q) : mC l yX7_digest wsX7_digest { frames := 3, cells := 138, slots := 762, locals := 68 } D y 43 ad mN (mM y ad th ρ α) [.ref (ad 42)] (some (.long q.1)) (mM y ad q.2.1 q.2.2.1 q.2.2.2) 138 762 := by
  refine m_start (cc := cX7_digest) (maxL := 5) (ret := (some .long)) (by decide) rfl (Nat.le_of_ble_eq_true rfl) (fun p e s m args below meth c ls hB _ V Z hl => ?_)
  obtain ⟨hx, hb, hml, hown, hts, hr, hlk⟩ := id hB
  have hl : lv_has ls 5 [(0, .ref (ad 42))] := hl
  rw [f_X7_digest] at h
  refine lv_aload_n hx hb dX7_digest_0 rfl (lv_at hl 0 rfl) ?_
  refine lv_iconst (v := 0) hx hb dX7_digest_1 (by decide) ?_
  refine pM_th hx hb hts hown (fun _ h => List.mem_cons_of_mem _ (List.mem_append_left _ (List.mem_append_right _ h))) V (hts _ (List.mem_of_getElem? (i := 1) rfl)) dX7_digest_2 (fun H locs V => ?_)
  refine lv_ldc2 (v := 509) hx hb hown (hts _ (List.mem_of_getElem? (i := 2) rfl)) dX7_digest_5 ?_
  refine lv_lstore_n (lv' := [(1, .long 509), (0, .ref (ad 42))]) hx hb dX7_digest_8 rfl hl (by decide) rfl (fun ls hl => ?_)
  refine lv_iconst (v := 0) hx hb dX7_digest_9 (by decide) ?_
  refine lv_istore_n (lv' := [(3, .int 0), (1, .long 509), (0, .ref (ad 42))]) hx hb dX7_digest_10 rfl hl (by decide) rfl (fun ls hl => ?_)
  exact w_X7_digest_11 Z hB _ _ _ _ _ _ h _ _ (by omega) (by omega) _ _ _ V (lv_sub hl [2, 1, 0] rfl)
