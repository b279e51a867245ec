-- X3_sit
def f_X3_sit (N : Nat) (σ : mSt) (a0 : Nat) (a1 : Int32) (a2 : Int32) : Option (Unit × mSt) := if a0 < 32 then some ((), (mUp (mUp (mUp σ 18 a0 a1) 19 a0 a2) 20 a0 0)) else none
set_option maxHeartbeats 4000000 in
set_option maxRecDepth 100000 in
theorem c_X3_sit {l : Launch} {D : va_G} {y : Nat → ClassId} {ad : Nat → Nat} {N : Nat} {σ : mSt} {a0 : Nat} {a1 : Int32} {a2 : Int32} {q : Unit × mSt} (hstk : l.stackTraces = false) (h : f_X3_sit N σ a0 a1 a2 = some q) : mC l yX3_sit wsX3_sit { frames := 0, cells := 0, slots := 0, locals := 0 } D y 80 ad mZ (mS y ad σ) [.ref (ad (48 + a0)), .int a1, .int a2] none (mS y ad q.2) 0 0 := by
  refine m_start (cc := cX3_sit) (maxL := 3) (ret := none) (by decide) rfl (Nat.le_of_ble_eq_true rfl) (fun p e s m args below meth c ls hB _ V Z hl => ?_)
  obtain ⟨hx, hb, hml, hown, hts, hr, hlk⟩ := id hB
  have hl : lv_has ls 3 [(0, .ref (ad (48 + a0))), (1, .int a1), (2, .int a2)] := hl
  rw [f_X3_sit] at h
  obtain ⟨hg2, h⟩ := gd_s h
  refine lv_aload_n hx hb dX3_sit_0 rfl (lv_at hl 0 rfl) ?_
  refine lv_iload_n hx hb dX3_sit_1 rfl (lv_at hl 1 rfl) ?_
  refine pS_S hx hb hts hown (fun _ h => List.mem_cons_of_mem _ (List.mem_append_right _ h)) V hg2 0 18 (by decide) rfl (hts _ (List.mem_of_getElem? (i := 1) rfl)) dX3_sit_2 (fun H locs V => ?_)
  refine lv_aload_n hx hb dX3_sit_5 rfl (lv_at hl 0 rfl) ?_
  refine lv_iload_n hx hb dX3_sit_6 rfl (lv_at hl 2 rfl) ?_
  refine pS_S hx hb hts hown (fun _ h => List.mem_cons_of_mem _ (List.mem_append_right _ h)) V hg2 1 19 (by decide) rfl (hts _ (List.mem_of_getElem? (i := 2) rfl)) dX3_sit_7 (fun H locs V => ?_)
  refine lv_aload_n hx hb dX3_sit_10 rfl (lv_at hl 0 rfl) ?_
  refine lv_iconst (v := 0) hx hb dX3_sit_11 (by decide) ?_
  refine pS_S hx hb hts hown (fun _ h => List.mem_cons_of_mem _ (List.mem_append_right _ h)) V hg2 2 20 (by decide) rfl (hts _ (List.mem_of_getElem? (i := 3) rfl)) dX3_sit_12 (fun H locs V => ?_)
  obtain rfl := Option.some.inj h
  exact m_vret hx hb hr hlk V (Nat.zero_le _) (Nat.zero_le _) dX3_sit_15
-- X0_sitDown
def f_X0_sitDown (N : Nat) (σ : mSt) (a0 : Nat) (a1 : Int32) (a2 : Int32) (a3 : Int32) : Option (Unit × mSt) := if a0 < 16 then (f_X3_sit N σ (2 * a0) a1 a3).bind fun q5 => (f_X3_sit N q5.2 (2 * a0 + 1) a2 a3).bind fun q6 => some ((), q6.2) else none
set_option maxHeartbeats 4000000 in
set_option maxRecDepth 100000 in
theorem c_X0_sitDown {l : Launch} {D : va_G} {y : Nat → ClassId} {ad : Nat → Nat} {N : Nat} {σ : mSt} {a0 : Nat} {a1 : Int32} {a2 : Int32} {a3 : Int32} {q : Unit × mSt} (hstk : l.stackTraces = false) (h : f_X0_sitDown N σ a0 a1 a2 a3 = some q) : mC l yX0_sitDown wsX0_sitDown { frames := 1, cells := 0, slots := 0, locals := 22 } D y 80 ad mZ (mS y ad σ) [.ref (ad (32 + a0)), .int a1, .int a2, .int a3] none (mS y ad q.2) 0 0 := by
  refine m_start (cc := cX0_sitDown) (maxL := 4) (ret := none) (by decide) rfl (Nat.le_of_ble_eq_true rfl) (fun p e s m args below meth c ls hB _ V Z hl => ?_)
  obtain ⟨hx, hb, hml, hown, hts, hr, hlk⟩ := id hB
  have hl : lv_has ls 4 [(0, .ref (ad (32 + a0))), (1, .int a1), (2, .int a2), (3, .int a3)] := hl
  rw [f_X0_sitDown] at h
  obtain ⟨hg4, h⟩ := gd_s h
  refine lv_aload_n hx hb dX0_sitDown_0 rfl (lv_at hl 0 rfl) ?_
  refine sS_w hx hb hts hown (fun _ h => List.mem_cons_of_mem _ (List.mem_append_left _ (List.mem_append_right _ h))) V hg4 (hts _ (List.mem_of_getElem? (i := 1) rfl)) dX0_sitDown_1 ?_
  refine lv_iload_n hx hb dX0_sitDown_4 rfl (lv_at hl 1 rfl) ?_
  refine lv_iload_n hx hb dX0_sitDown_5 rfl (lv_at hl 3 rfl) ?_
  obtain ⟨q5, hq5, h⟩ := bd_s h
  refine kSS (As := [.int a1, .int a3]) (rest := []) ⟨hx, hb, hml, hown, hts⟩ Z V (c_X3_sit (l := l) (D := D) (y := y) (ad := ad) hstk hq5) (cwV 2 hts gX0_sitDown_X3_sit rfl rfl rfl (by decide +kernel) ⟨Nat.le_of_ble_eq_true rfl, Nat.le_of_ble_eq_true rfl⟩) (by omega) (mS_S y ad _ (show 2 * a0 < 32 by have := hg4; omega)) rfl rfl hl.1 rfl (Nat.le_of_ble_eq_true rfl) ⟨Nat.zero_le _, Nat.zero_le _⟩ rfl dX0_sitDown_6 (fun H locs V => ?_)
  refine lv_aload_n hx hb dX0_sitDown_9 rfl (lv_at hl 0 rfl) ?_
  refine sS_b hx hb hts hown (fun _ h => List.mem_cons_of_mem _ (List.mem_append_left _ (List.mem_append_right _ h))) V hg4 (hts _ (List.mem_of_getElem? (i := 2) rfl)) dX0_sitDown_10 ?_
  refine lv_iload_n hx hb dX0_sitDown_13 rfl (lv_at hl 2 rfl) ?_
  refine lv_iload_n hx hb dX0_sitDown_14 rfl (lv_at hl 3 rfl) ?_
  obtain ⟨q6, hq6, h⟩ := bd_s h
  refine kSS (As := [.int a2, .int a3]) (rest := []) ⟨hx, hb, hml, hown, hts⟩ Z V (c_X3_sit (l := l) (D := D) (y := y) (ad := ad) hstk hq6) (cwV 2 hts gX0_sitDown_X3_sit rfl rfl rfl (by decide +kernel) ⟨Nat.le_of_ble_eq_true rfl, Nat.le_of_ble_eq_true rfl⟩) (by omega) (mS_S y ad _ (show 2 * a0 + 1 < 32 by have := hg4; omega)) rfl rfl hl.1 rfl (Nat.le_of_ble_eq_true rfl) ⟨Nat.zero_le _, Nat.zero_le _⟩ rfl dX0_sitDown_15 (fun H locs V => ?_)
  obtain rfl := Option.some.inj h
  exact m_vret hx hb hr hlk V (Nat.zero_le _) (Nat.zero_le _) dX0_sitDown_18
-- X0_start
def f_X0_start (N : Nat) (σ : mSt) (a0 : Nat) (a1 : Int32) (a2 : Int32) (a3 : Int32) (a4 : Int32) : Option (Unit × mSt) := if a0 < 16 then some ((), (mUp (mUp (mUp (mUp (mUp (mUp (mUp (mUp σ 10 a0 a1) 11 a0 a2) 12 a0 a3) 13 a0 a4) 14 a0 0) 15 a0 0) 16 a0 0) 17 a0 0)) else none
set_option maxHeartbeats 4000000 in
set_option maxRecDepth 100000 in
theorem c_X0_start {l : Launch} {D : va_G} {y : Nat → ClassId} {ad : Nat → Nat} {N : Nat} {σ : mSt} {a0 : Nat} {a1 : Int32} {a2 : Int32} {a3 : Int32} {a4 : Int32} {q : Unit × mSt} (hstk : l.stackTraces = false) (h : f_X0_start N σ a0 a1 a2 a3 a4 = some q) : mC l yX0_start wsX0_start { frames := 0, cells := 0, slots := 0, locals := 0 } D y 80 ad mZ (mS y ad σ) [.ref (ad (32 + a0)), .int a1, .int a2, .int a3, .int a4] none (mS y ad q.2) 0 0 := by
  refine m_start (cc := cX0_start) (maxL := 5) (ret := none) (by decide) rfl (Nat.le_of_ble_eq_true rfl) (fun p e s m args below meth c ls hB _ V Z hl => ?_)
  obtain ⟨hx, hb, hml, hown, hts, hr, hlk⟩ := id hB
  have hl : lv_has ls 5 [(0, .ref (ad (32 + a0))), (1, .int a1), (2, .int a2), (3, .int a3), (4, .int a4)] := hl
  rw [f_X0_start] at h
  obtain ⟨hg2, h⟩ := gd_s h
  refine lv_aload_n hx hb dX0_start_0 rfl (lv_at hl 0 rfl) ?_
  refine lv_iload_n hx hb dX0_start_1 rfl (lv_at hl 1 rfl) ?_
  refine pS_G hx hb hts hown (fun _ h => List.mem_cons_of_mem _ (List.mem_append_right _ h)) V hg2 0 10 (by decide) rfl (hts _ (List.mem_of_getElem? (i := 1) rfl)) dX0_start_2 (fun H locs V => ?_)
  refine lv_aload_n hx hb dX0_start_5 rfl (lv_at hl 0 rfl) ?_
  refine lv_iload_n hx hb dX0_start_6 rfl (lv_at hl 2 rfl) ?_
  refine pS_G hx hb hts hown (fun _ h => List.mem_cons_of_mem _ (List.mem_append_right _ h)) V hg2 1 11 (by decide) rfl (hts _ (List.mem_of_getElem? (i := 2) rfl)) dX0_start_7 (fun H locs V => ?_)
  refine lv_aload_n hx hb dX0_start_10 rfl (lv_at hl 0 rfl) ?_
  refine lv_iload_n hx hb dX0_start_11 rfl (lv_at hl 3 rfl) ?_
  refine pS_G hx hb hts hown (fun _ h => List.mem_cons_of_mem _ (List.mem_append_right _ h)) V hg2 2 12 (by decide) rfl (hts _ (List.mem_of_getElem? (i := 3) rfl)) dX0_start_12 (fun H locs V => ?_)
  refine lv_aload_n hx hb dX0_start_15 rfl (lv_at hl 0 rfl) ?_
  refine lv_iload hx hb dX0_start_16 (lv_at hl 4 rfl) ?_
  refine pS_G hx hb hts hown (fun _ h => List.mem_cons_of_mem _ (List.mem_append_right _ h)) V hg2 3 13 (by decide) rfl (hts _ (List.mem_of_getElem? (i := 4) rfl)) dX0_start_18 (fun H locs V => ?_)
  refine lv_aload_n hx hb dX0_start_21 rfl (lv_at hl 0 rfl) ?_
  refine lv_iconst (v := 0) hx hb dX0_start_22 (by decide) ?_
  refine pS_G hx hb hts hown (fun _ h => List.mem_cons_of_mem _ (List.mem_append_right _ h)) V hg2 4 14 (by decide) rfl (hts _ (List.mem_of_getElem? (i := 5) rfl)) dX0_start_23 (fun H locs V => ?_)
  refine lv_aload_n hx hb dX0_start_26 rfl (lv_at hl 0 rfl) ?_
  refine lv_iconst (v := 0) hx hb dX0_start_27 (by decide) ?_
  refine pS_G hx hb hts hown (fun _ h => List.mem_cons_of_mem _ (List.mem_append_right _ h)) V hg2 5 15 (by decide) rfl (hts _ (List.mem_of_getElem? (i := 6) rfl)) dX0_start_28 (fun H locs V => ?_)
  refine lv_aload_n hx hb dX0_start_31 rfl (lv_at hl 0 rfl) ?_
  refine lv_iconst (v := 0) hx hb dX0_start_32 (by decide) ?_
  refine pS_G hx hb hts hown (fun _ h => List.mem_cons_of_mem _ (List.mem_append_right _ h)) V hg2 6 16 (by decide) rfl (hts _ (List.mem_of_getElem? (i := 7) rfl)) dX0_start_33 (fun H locs V => ?_)
  refine lv_aload_n hx hb dX0_start_36 rfl (lv_at hl 0 rfl) ?_
  refine lv_iconst (v := 0) hx hb dX0_start_37 (by decide) ?_
  refine pS_G hx hb hts hown (fun _ h => List.mem_cons_of_mem _ (List.mem_append_right _ h)) V hg2 7 17 (by decide) rfl (hts _ (List.mem_of_getElem? (i := 8) rfl)) dX0_start_38 (fun H locs V => ?_)
  obtain rfl := Option.some.inj h
  exact m_vret hx hb hr hlk V (Nat.zero_le _) (Nat.zero_le _) dX0_start_41
-- X3_copy
def f_X3_copy (N : Nat) (σ τ : mSt) (a0 : Nat) (a1 : Nat) : Option (Unit × mSt × mSt) := if a0 < 32 then if a1 < 32 then some ((), σ, (mUp (mUp (mUp τ 18 a0 (σ 18 a1)) 19 a0 (σ 19 a1)) 20 a0 (σ 20 a1))) else none else none
set_option maxHeartbeats 4000000 in
set_option maxRecDepth 100000 in
theorem c_X3_copy {l : Launch} {D : va_G} {y : Nat → ClassId} {ad : Nat → Nat} {N : Nat} {σ τ : mSt} {a0 : Nat} {a1 : Nat} {q : Unit × mSt × mSt} (hstk : l.stackTraces = false) (h : f_X3_copy N σ τ a0 a1 = some q) : mC l yX3_copy wsX3_copy { frames := 0, cells := 0, slots := 0, locals := 0 } D y 161 ad mZ (mB y ad σ τ) [.ref (ad (80 + (48 + a0))), .ref (ad (48 + a1))] none (mB y ad q.2.1 q.2.2) 0 0 := by
  refine m_start (cc := cX3_copy) (maxL := 2) (ret := none) (by decide) rfl (Nat.le_of_ble_eq_true rfl) (fun p e s m args below meth c ls hB _ V Z hl => ?_)
  obtain ⟨hx, hb, hml, hown, hts, hr, hlk⟩ := id hB
  have hl : lv_has ls 2 [(0, .ref (ad (80 + (48 + a0)))), (1, .ref (ad (48 + a1)))] := hl
  rw [f_X3_copy] at h
  obtain ⟨hg3, h⟩ := gd_s h
  obtain ⟨hg4, h⟩ := gd_s h
  refine lv_aload_n hx hb dX3_copy_0 rfl (lv_at hl 0 rfl) ?_
  refine lv_aload_n hx hb dX3_copy_1 rfl (lv_at hl 1 rfl) ?_
  refine gB_S hx hb hts hown (fun _ h => List.mem_cons_of_mem _ (List.mem_append_right _ h)) V hg4 0 18 (by decide) rfl (hts _ (List.mem_of_getElem? (i := 1) rfl)) dX3_copy_2 ?_
  refine pC_S hx hb hts hown (fun _ h => List.mem_cons_of_mem _ (List.mem_append_right _ h)) V hg3 0 18 (by decide) rfl (hts _ (List.mem_of_getElem? (i := 1) rfl)) dX3_copy_5 (fun H locs V => ?_)
  refine lv_aload_n hx hb dX3_copy_8 rfl (lv_at hl 0 rfl) ?_
  refine lv_aload_n hx hb dX3_copy_9 rfl (lv_at hl 1 rfl) ?_
  refine gB_S hx hb hts hown (fun _ h => List.mem_cons_of_mem _ (List.mem_append_right _ h)) V hg4 1 19 (by decide) rfl (hts _ (List.mem_of_getElem? (i := 2) rfl)) dX3_copy_10 ?_
  refine pC_S hx hb hts hown (fun _ h => List.mem_cons_of_mem _ (List.mem_append_right _ h)) V hg3 1 19 (by decide) rfl (hts _ (List.mem_of_getElem? (i := 2) rfl)) dX3_copy_13 (fun H locs V => ?_)
  refine lv_aload_n hx hb dX3_copy_16 rfl (lv_at hl 0 rfl) ?_
  refine lv_aload_n hx hb dX3_copy_17 rfl (lv_at hl 1 rfl) ?_
  refine gB_S hx hb hts hown (fun _ h => List.mem_cons_of_mem _ (List.mem_append_right _ h)) V hg4 2 20 (by decide) rfl (hts _ (List.mem_of_getElem? (i := 3) rfl)) dX3_copy_18 ?_
  refine pC_S hx hb hts hown (fun _ h => List.mem_cons_of_mem _ (List.mem_append_right _ h)) V hg3 2 20 (by decide) rfl (hts _ (List.mem_of_getElem? (i := 3) rfl)) dX3_copy_21 (fun H locs V => ?_)
  obtain rfl := Option.some.inj h
  exact m_vret hx hb hr hlk V (Nat.zero_le _) (Nat.zero_le _) dX3_copy_24
-- X0_copy
def f_X0_copy (N : Nat) (σ τ : mSt) (a0 : Nat) (a1 : Nat) : Option (Unit × mSt × mSt) := if a0 < 16 then if a1 < 16 then (f_X3_copy N σ τ (2 * a0) (2 * a1)).bind fun q7 => (f_X3_copy N q7.2.1 q7.2.2 (2 * a0 + 1) (2 * a1 + 1)).bind fun q8 => some ((), q8.2.1, (mUp (mUp (mUp (mUp (mUp (mUp (mUp (mUp q8.2.2 10 a0 (q8.2.1 10 a1)) 11 a0 (q8.2.1 11 a1)) 12 a0 (q8.2.1 12 a1)) 13 a0 (q8.2.1 13 a1)) 14 a0 (q8.2.1 14 a1)) 15 a0 (q8.2.1 15 a1)) 16 a0 (q8.2.1 16 a1)) 17 a0 (q8.2.1 17 a1))) else none else none
set_option maxHeartbeats 4000000 in
set_option maxRecDepth 100000 in
theorem c_X0_copy {l : Launch} {D : va_G} {y : Nat → ClassId} {ad : Nat → Nat} {N : Nat} {σ τ : mSt} {a0 : Nat} {a1 : Nat} {q : Unit × mSt × mSt} (hstk : l.stackTraces = false) (h : f_X0_copy N σ τ a0 a1 = some q) : mC l yX0_copy wsX0_copy { frames := 1, cells := 0, slots := 0, locals := 21 } D y 161 ad mZ (mB y ad σ τ) [.ref (ad (80 + (32 + a0))), .ref (ad (32 + a1))] none (mB y ad q.2.1 q.2.2) 0 0 := by
  refine m_start (cc := cX0_copy) (maxL := 2) (ret := none) (by decide) rfl (Nat.le_of_ble_eq_true rfl) (fun p e s m args below meth c ls hB _ V Z hl => ?_)
  obtain ⟨hx, hb, hml, hown, hts, hr, hlk⟩ := id hB
  have hl : lv_has ls 2 [(0, .ref (ad (80 + (32 + a0)))), (1, .ref (ad (32 + a1)))] := hl
  rw [f_X0_copy] at h
  obtain ⟨hg5, h⟩ := gd_s h
  obtain ⟨hg6, h⟩ := gd_s h
  refine lv_aload_n hx hb dX0_copy_0 rfl (lv_at hl 0 rfl) ?_
  refine sC_w hx hb hts hown (fun _ h => List.mem_cons_of_mem _ (List.mem_append_left _ (List.mem_append_right _ h))) V hg5 (hts _ (List.mem_of_getElem? (i := 1) rfl)) dX0_copy_1 ?_
  refine lv_aload_n hx hb dX0_copy_4 rfl (lv_at hl 1 rfl) ?_
  refine sB_w hx hb hts hown (fun _ h => List.mem_cons_of_mem _ (List.mem_append_left _ (List.mem_append_right _ h))) V hg6 (hts _ (List.mem_of_getElem? (i := 1) rfl)) dX0_copy_5 ?_
  obtain ⟨q7, hq7, h⟩ := bd_s h
  refine kBB (As := [.ref (ad (48 + (2 * a1)))]) (rest := []) ⟨hx, hb, hml, hown, hts⟩ Z V (c_X3_copy (l := l) (D := D) (y := y) (ad := ad) hstk hq7) (cwV 1 hts gX0_copy_X3_copy rfl rfl rfl (by decide +kernel) ⟨Nat.le_of_ble_eq_true rfl, Nat.le_of_ble_eq_true rfl⟩) (by omega) ((mB_1 y ad _ _ (by omega)).trans (mS_S y (fun k => ad (80 + k)) _ (show 2 * a0 < 32 by have := hg5; omega))) rfl rfl hl.1 rfl (Nat.le_of_ble_eq_true rfl) ⟨Nat.zero_le _, Nat.zero_le _⟩ rfl dX0_copy_8 (fun H locs V => ?_)
  refine lv_aload_n hx hb dX0_copy_11 rfl (lv_at hl 0 rfl) ?_
  refine sC_b hx hb hts hown (fun _ h => List.mem_cons_of_mem _ (List.mem_append_left _ (List.mem_append_right _ h))) V hg5 (hts _ (List.mem_of_getElem? (i := 2) rfl)) dX0_copy_12 ?_
  refine lv_aload_n hx hb dX0_copy_15 rfl (lv_at hl 1 rfl) ?_
  refine sB_b hx hb hts hown (fun _ h => List.mem_cons_of_mem _ (List.mem_append_left _ (List.mem_append_right _ h))) V hg6 (hts _ (List.mem_of_getElem? (i := 2) rfl)) dX0_copy_16 ?_
  obtain ⟨q8, hq8, h⟩ := bd_s h
  refine kBB (As := [.ref (ad (48 + (2 * a1 + 1)))]) (rest := []) ⟨hx, hb, hml, hown, hts⟩ Z V (c_X3_copy (l := l) (D := D) (y := y) (ad := ad) hstk hq8) (cwV 1 hts gX0_copy_X3_copy rfl rfl rfl (by decide +kernel) ⟨Nat.le_of_ble_eq_true rfl, Nat.le_of_ble_eq_true rfl⟩) (by omega) ((mB_1 y ad _ _ (by omega)).trans (mS_S y (fun k => ad (80 + k)) _ (show 2 * a0 + 1 < 32 by have := hg5; omega))) rfl rfl hl.1 rfl (Nat.le_of_ble_eq_true rfl) ⟨Nat.zero_le _, Nat.zero_le _⟩ rfl dX0_copy_19 (fun H locs V => ?_)
  refine lv_aload_n hx hb dX0_copy_22 rfl (lv_at hl 0 rfl) ?_
  refine lv_aload_n hx hb dX0_copy_23 rfl (lv_at hl 1 rfl) ?_
  refine gB_G hx hb hts hown (fun _ h => List.mem_cons_of_mem _ (List.mem_append_left _ (List.mem_append_right _ h))) V hg6 0 10 (by decide) rfl (hts _ (List.mem_of_getElem? (i := 3) rfl)) dX0_copy_24 ?_
  refine pC_G hx hb hts hown (fun _ h => List.mem_cons_of_mem _ (List.mem_append_left _ (List.mem_append_right _ h))) V hg5 0 10 (by decide) rfl (hts _ (List.mem_of_getElem? (i := 3) rfl)) dX0_copy_27 (fun H locs V => ?_)
  refine lv_aload_n hx hb dX0_copy_30 rfl (lv_at hl 0 rfl) ?_
  refine lv_aload_n hx hb dX0_copy_31 rfl (lv_at hl 1 rfl) ?_
  refine gB_G hx hb hts hown (fun _ h => List.mem_cons_of_mem _ (List.mem_append_left _ (List.mem_append_right _ h))) V hg6 1 11 (by decide) rfl (hts _ (List.mem_of_getElem? (i := 4) rfl)) dX0_copy_32 ?_
  refine pC_G hx hb hts hown (fun _ h => List.mem_cons_of_mem _ (List.mem_append_left _ (List.mem_append_right _ h))) V hg5 1 11 (by decide) rfl (hts _ (List.mem_of_getElem? (i := 4) rfl)) dX0_copy_35 (fun H locs V => ?_)
  refine lv_aload_n hx hb dX0_copy_38 rfl (lv_at hl 0 rfl) ?_
  refine lv_aload_n hx hb dX0_copy_39 rfl (lv_at hl 1 rfl) ?_
  refine gB_G hx hb hts hown (fun _ h => List.mem_cons_of_mem _ (List.mem_append_left _ (List.mem_append_right _ h))) V hg6 2 12 (by decide) rfl (hts _ (List.mem_of_getElem? (i := 5) rfl)) dX0_copy_40 ?_
  refine pC_G hx hb hts hown (fun _ h => List.mem_cons_of_mem _ (List.mem_append_left _ (List.mem_append_right _ h))) V hg5 2 12 (by decide) rfl (hts _ (List.mem_of_getElem? (i := 5) rfl)) dX0_copy_43 (fun H locs V => ?_)
  refine lv_aload_n hx hb dX0_copy_46 rfl (lv_at hl 0 rfl) ?_
  refine lv_aload_n hx hb dX0_copy_47 rfl (lv_at hl 1 rfl) ?_
  refine gB_G hx hb hts hown (fun _ h => List.mem_cons_of_mem _ (List.mem_append_left _ (List.mem_append_right _ h))) V hg6 3 13 (by decide) rfl (hts _ (List.mem_of_getElem? (i := 6) rfl)) dX0_copy_48 ?_
  refine pC_G hx hb hts hown (fun _ h => List.mem_cons_of_mem _ (List.mem_append_left _ (List.mem_append_right _ h))) V hg5 3 13 (by decide) rfl (hts _ (List.mem_of_getElem? (i := 6) rfl)) dX0_copy_51 (fun H locs V => ?_)
  refine lv_aload_n hx hb dX0_copy_54 rfl (lv_at hl 0 rfl) ?_
  refine lv_aload_n hx hb dX0_copy_55 rfl (lv_at hl 1 rfl) ?_
  refine gB_G hx hb hts hown (fun _ h => List.mem_cons_of_mem _ (List.mem_append_left _ (List.mem_append_right _ h))) V hg6 4 14 (by decide) rfl (hts _ (List.mem_of_getElem? (i := 7) rfl)) dX0_copy_56 ?_
  refine pC_G hx hb hts hown (fun _ h => List.mem_cons_of_mem _ (List.mem_append_left _ (List.mem_append_right _ h))) V hg5 4 14 (by decide) rfl (hts _ (List.mem_of_getElem? (i := 7) rfl)) dX0_copy_59 (fun H locs V => ?_)
  refine lv_aload_n hx hb dX0_copy_62 rfl (lv_at hl 0 rfl) ?_
  refine lv_aload_n hx hb dX0_copy_63 rfl (lv_at hl 1 rfl) ?_
  refine gB_G hx hb hts hown (fun _ h => List.mem_cons_of_mem _ (List.mem_append_left _ (List.mem_append_right _ h))) V hg6 5 15 (by decide) rfl (hts _ (List.mem_of_getElem? (i := 8) rfl)) dX0_copy_64 ?_
  refine pC_G hx hb hts hown (fun _ h => List.mem_cons_of_mem _ (List.mem_append_left _ (List.mem_append_right _ h))) V hg5 5 15 (by decide) rfl (hts _ (List.mem_of_getElem? (i := 8) rfl)) dX0_copy_67 (fun H locs V => ?_)
  refine lv_aload_n hx hb dX0_copy_70 rfl (lv_at hl 0 rfl) ?_
  refine lv_aload_n hx hb dX0_copy_71 rfl (lv_at hl 1 rfl) ?_
  refine gB_G hx hb hts hown (fun _ h => List.mem_cons_of_mem _ (List.mem_append_left _ (List.mem_append_right _ h))) V hg6 6 16 (by decide) rfl (hts _ (List.mem_of_getElem? (i := 9) rfl)) dX0_copy_72 ?_
  refine pC_G hx hb hts hown (fun _ h => List.mem_cons_of_mem _ (List.mem_append_left _ (List.mem_append_right _ h))) V hg5 6 16 (by decide) rfl (hts _ (List.mem_of_getElem? (i := 9) rfl)) dX0_copy_75 (fun H locs V => ?_)
  refine lv_aload_n hx hb dX0_copy_78 rfl (lv_at hl 0 rfl) ?_
  refine lv_aload_n hx hb dX0_copy_79 rfl (lv_at hl 1 rfl) ?_
  refine gB_G hx hb hts hown (fun _ h => List.mem_cons_of_mem _ (List.mem_append_left _ (List.mem_append_right _ h))) V hg6 7 17 (by decide) rfl (hts _ (List.mem_of_getElem? (i := 10) rfl)) dX0_copy_80 ?_
  refine pC_G hx hb hts hown (fun _ h => List.mem_cons_of_mem _ (List.mem_append_left _ (List.mem_append_right _ h))) V hg5 7 17 (by decide) rfl (hts _ (List.mem_of_getElem? (i := 10) rfl)) dX0_copy_83 (fun H locs V => ?_)
  obtain rfl := Option.some.inj h
  exact m_vret hx hb hr hlk V (Nat.zero_le _) (Nat.zero_le _) dX0_copy_86
-- X0_runs
def f_X0_runs (N : Nat) (σ : mSt) (a0 : Nat) : Option (Int32 × mSt) := if a0 < 16 then if (σ 17 a0) = 0 then some (1, σ) else some (0, σ) else none
set_option maxHeartbeats 4000000 in
set_option maxRecDepth 100000 in
theorem c_X0_runs {l : Launch} {D : va_G} {y : Nat → ClassId} {ad : Nat → Nat} {N : Nat} {σ : mSt} {a0 : Nat} {q : Int32 × mSt} (hstk : l.stackTraces = false) (h : f_X0_runs N σ a0 = some q) : mC l yX0_runs wsX0_runs { frames := 0, cells := 0, slots := 0, locals := 0 } D y 80 ad mZ (mS y ad σ) [.ref (ad (32 + a0))] (some (.int q.1)) (mS y ad q.2) 0 0 := by
  refine m_start (cc := cX0_runs) (maxL := 1) (ret := (some .boolean)) (by decide) rfl (Nat.le_of_ble_eq_true rfl) (fun p e s m args below meth c ls hB _ V Z hl => ?_)
  obtain ⟨hx, hb, hml, hown, hts, hr, hlk⟩ := id hB
  have hl : lv_has ls 1 [(0, .ref (ad (32 + a0)))] := hl
  rw [f_X0_runs] at h
  obtain ⟨hg3, h⟩ := gd_s h
  refine lv_aload_n hx hb dX0_runs_0 rfl (lv_at hl 0 rfl) ?_
  refine gS_G hx hb hts hown (fun _ h => List.mem_cons_of_mem _ (List.mem_append_right _ h)) V hg3 7 17 (by decide) rfl (hts _ (List.mem_of_getElem? (i := 1) rfl)) dX0_runs_1 ?_
  refine lv_if_ne (tgt := 11) hx hb dX0_runs_4 (by decide) (fun hc4 => ?_) (fun hc4 => ?_)
  · replace h := ite_f hc4 h
    refine lv_iconst (v := 0) hx hb dX0_runs_11 (by decide) ?_
    obtain rfl := Option.some.inj h
    exact m_zret hx hb hr hlk V (Or.inl rfl) (Nat.zero_le _) (Nat.zero_le _) dX0_runs_12
  · replace h := ite_t hc4 h
    refine lv_iconst (v := 1) hx hb dX0_runs_7 (by decide) ?_
    refine lv_goto (tgt := 12) hx hb dX0_runs_8 (by decide) ?_
    obtain rfl := Option.some.inj h
    exact m_zret hx hb hr hlk V (Or.inr rfl) (Nat.zero_le _) (Nat.zero_le _) dX0_runs_12
-- X0_isPlayedBy
def f_X0_isPlayedBy (N : Nat) (σ : mSt) (a0 : Nat) (a1 : Int32) : Option (Int32 × mSt) := if a0 < 16 then if (σ 18 (2 * a0)) = a1 then some (1, σ) else if (σ 18 (2 * a0 + 1)) = a1 then some (1, σ) else some (0, σ) else none
set_option maxHeartbeats 4000000 in
set_option maxRecDepth 100000 in
theorem c_X0_isPlayedBy {l : Launch} {D : va_G} {y : Nat → ClassId} {ad : Nat → Nat} {N : Nat} {σ : mSt} {a0 : Nat} {a1 : Int32} {q : Int32 × mSt} (hstk : l.stackTraces = false) (h : f_X0_isPlayedBy N σ a0 a1 = some q) : mC l yX0_isPlayedBy wsX0_isPlayedBy { frames := 0, cells := 0, slots := 0, locals := 0 } D y 80 ad mZ (mS y ad σ) [.ref (ad (32 + a0)), .int a1] (some (.int q.1)) (mS y ad q.2) 0 0 := by
  refine m_start (cc := cX0_isPlayedBy) (maxL := 2) (ret := (some .boolean)) (by decide) rfl (Nat.le_of_ble_eq_true rfl) (fun p e s m args below meth c ls hB _ V Z hl => ?_)
  obtain ⟨hx, hb, hml, hown, hts, hr, hlk⟩ := id hB
  have hl : lv_has ls 2 [(0, .ref (ad (32 + a0))), (1, .int a1)] := hl
  rw [f_X0_isPlayedBy] at h
  obtain ⟨hg4, h⟩ := gd_s h
  refine lv_aload_n hx hb dX0_isPlayedBy_0 rfl (lv_at hl 0 rfl) ?_
  refine sS_w hx hb hts hown (fun _ h => List.mem_cons_of_mem _ (List.mem_append_left _ (List.mem_append_right _ h))) V hg4 (hts _ (List.mem_of_getElem? (i := 1) rfl)) dX0_isPlayedBy_1 ?_
  refine gS_S hx hb hts hown (fun _ h => List.mem_cons_of_mem _ (List.mem_append_right _ h)) V (show 2 * a0 < 32 by have := hg4; omega) 0 18 (by decide) rfl (hts _ (List.mem_of_getElem? (i := 2) rfl)) dX0_isPlayedBy_4 ?_
  refine lv_iload_n hx hb dX0_isPlayedBy_7 rfl (lv_at hl 1 rfl) ?_
  refine lv_icmp_eq (tgt := 22) hx hb dX0_isPlayedBy_8 (by decide) (fun hc5 => ?_) (fun hc5 => ?_)
  · replace h := ite_t hc5 h
    refine lv_iconst (v := 1) hx hb dX0_isPlayedBy_22 (by decide) ?_
    refine lv_goto (tgt := 27) hx hb dX0_isPlayedBy_23 (by decide) ?_
    obtain rfl := Option.some.inj h
    exact m_zret hx hb hr hlk V (Or.inr rfl) (Nat.zero_le _) (Nat.zero_le _) dX0_isPlayedBy_27
  · replace h := ite_f hc5 h
    refine lv_aload_n hx hb dX0_isPlayedBy_11 rfl (lv_at hl 0 rfl) ?_
    refine sS_b hx hb hts hown (fun _ h => List.mem_cons_of_mem _ (List.mem_append_left _ (List.mem_append_right _ h))) V hg4 (hts _ (List.mem_of_getElem? (i := 3) rfl)) dX0_isPlayedBy_12 ?_
    refine gS_S hx hb hts hown (fun _ h => List.mem_cons_of_mem _ (List.mem_append_right _ h)) V (show 2 * a0 + 1 < 32 by have := hg4; omega) 0 18 (by decide) rfl (hts _ (List.mem_of_getElem? (i := 2) rfl)) dX0_isPlayedBy_15 ?_
    refine lv_iload_n hx hb dX0_isPlayedBy_18 rfl (lv_at hl 1 rfl) ?_
    refine lv_icmp_ne (tgt := 26) hx hb dX0_isPlayedBy_19 (by decide) (fun hc6 => ?_) (fun hc6 => ?_)
    · replace h := ite_f hc6 h
      refine lv_iconst (v := 0) hx hb dX0_isPlayedBy_26 (by decide) ?_
      obtain rfl := Option.some.inj h
      exact m_zret hx hb hr hlk V (Or.inl rfl) (Nat.zero_le _) (Nat.zero_le _) dX0_isPlayedBy_27
    · replace h := ite_t hc6 h
      refine lv_iconst (v := 1) hx hb dX0_isPlayedBy_22 (by decide) ?_
      refine lv_goto (tgt := 27) hx hb dX0_isPlayedBy_23 (by decide) ?_
      obtain rfl := Option.some.inj h
      exact m_zret hx hb hr hlk V (Or.inr rfl) (Nat.zero_le _) (Nat.zero_le _) dX0_isPlayedBy_27
-- X0_sideAt
def f_X0_sideAt (N : Nat) (σ : mSt) (a0 : Nat) (a1 : Int32) : Option (Nat × mSt) := if a0 < 16 then if a1 = 0 then some (2 * a0, σ) else some (2 * a0 + 1, σ) else none
set_option maxHeartbeats 4000000 in
set_option maxRecDepth 100000 in
theorem c_X0_sideAt {l : Launch} {D : va_G} {y : Nat → ClassId} {ad : Nat → Nat} {N : Nat} {σ : mSt} {a0 : Nat} {a1 : Int32} {q : Nat × mSt} (hstk : l.stackTraces = false) (h : f_X0_sideAt N σ a0 a1 = some q) : mC l yX0_sideAt wsX0_sideAt { frames := 0, cells := 0, slots := 0, locals := 0 } D y 80 ad mZ (mS y ad σ) [.ref (ad (32 + a0)), .int a1] (some (.ref (ad (48 + q.1)))) (mS y ad q.2) 0 0 := by
  refine m_start (cc := cX0_sideAt) (maxL := 2) (ret := (some (.object "MinuteBank$Side"))) (by decide) rfl (Nat.le_of_ble_eq_true rfl) (fun p e s m args below meth c ls hB _ V Z hl => ?_)
  obtain ⟨hx, hb, hml, hown, hts, hr, hlk⟩ := id hB
  have hl : lv_has ls 2 [(0, .ref (ad (32 + a0))), (1, .int a1)] := hl
  rw [f_X0_sideAt] at h
  obtain ⟨hg3, h⟩ := gd_s h
  refine lv_iload_n hx hb dX0_sideAt_0 rfl (lv_at hl 1 rfl) ?_
  refine lv_if_ne (tgt := 11) hx hb dX0_sideAt_1 (by decide) (fun hc4 => ?_) (fun hc4 => ?_)
  · replace h := ite_f hc4 h
    refine lv_aload_n hx hb dX0_sideAt_11 rfl (lv_at hl 0 rfl) ?_
    refine sS_b hx hb hts hown (fun _ h => List.mem_cons_of_mem _ (List.mem_append_right _ h)) V hg3 (hts _ (List.mem_of_getElem? (i := 2) rfl)) dX0_sideAt_12 ?_
    obtain rfl := Option.some.inj h
    exact m_aret hx hb hr hlk V (Nat.zero_le _) (Nat.zero_le _) dX0_sideAt_15
  · replace h := ite_t hc4 h
    refine lv_aload_n hx hb dX0_sideAt_4 rfl (lv_at hl 0 rfl) ?_
    refine sS_w hx hb hts hown (fun _ h => List.mem_cons_of_mem _ (List.mem_append_right _ h)) V hg3 (hts _ (List.mem_of_getElem? (i := 1) rfl)) dX0_sideAt_5 ?_
    refine lv_goto (tgt := 15) hx hb dX0_sideAt_8 (by decide) ?_
    obtain rfl := Option.some.inj h
    exact m_aret hx hb hr hlk V (Nat.zero_le _) (Nat.zero_le _) dX0_sideAt_15
-- X0_mover
def f_X0_mover (N : Nat) (σ : mSt) (a0 : Nat) : Option (Nat × mSt) := if a0 < 16 then (f_X0_sideAt N σ a0 (σ 14 a0)).bind fun q5 => if q5.1 < 32 then some (q5.1, q5.2) else none else none
set_option maxHeartbeats 4000000 in
set_option maxRecDepth 100000 in
theorem c_X0_mover {l : Launch} {D : va_G} {y : Nat → ClassId} {ad : Nat → Nat} {N : Nat} {σ : mSt} {a0 : Nat} {q : Nat × mSt} (hstk : l.stackTraces = false) (h : f_X0_mover N σ a0 = some q) : mC l yX0_mover wsX0_mover { frames := 1, cells := 0, slots := 0, locals := 21 } D y 80 ad mZ (mS y ad σ) [.ref (ad (32 + a0))] (some (.ref (ad (48 + q.1)))) (mS y ad q.2) 0 0 := by
  refine m_start (cc := cX0_mover) (maxL := 1) (ret := (some (.object "MinuteBank$Side"))) (by decide) rfl (Nat.le_of_ble_eq_true rfl) (fun p e s m args below meth c ls hB _ V Z hl => ?_)
  obtain ⟨hx, hb, hml, hown, hts, hr, hlk⟩ := id hB
  have hl : lv_has ls 1 [(0, .ref (ad (32 + a0)))] := hl
  rw [f_X0_mover] at h
  obtain ⟨hg4, h⟩ := gd_s h
  refine lv_aload_n hx hb dX0_mover_0 rfl (lv_at hl 0 rfl) ?_
  refine lv_aload_n hx hb dX0_mover_1 rfl (lv_at hl 0 rfl) ?_
  refine gS_G hx hb hts hown (fun _ h => List.mem_cons_of_mem _ (List.mem_append_right _ h)) V hg4 4 14 (by decide) rfl (hts _ (List.mem_of_getElem? (i := 1) rfl)) dX0_mover_2 ?_
  obtain ⟨q5, hq5, h⟩ := bd_s h
  obtain ⟨hg6, h⟩ := gd_s h
  refine kSS (As := [.int (σ 14 a0)]) (rest := []) ⟨hx, hb, hml, hown, hts⟩ Z V (c_X0_sideAt (l := l) (D := D) (y := y) (ad := ad) hstk hq5) (cwV 1 hts gX0_mover_X0_sideAt rfl rfl rfl (by decide +kernel) ⟨Nat.le_of_ble_eq_true rfl, Nat.le_of_ble_eq_true rfl⟩) (by omega) (mS_G y ad _ hg4) rfl rfl hl.1 rfl (Nat.le_of_ble_eq_true rfl) ⟨Nat.zero_le _, Nat.zero_le _⟩ rfl dX0_mover_5 (fun H locs V => ?_)
  obtain rfl := Option.some.inj h
  exact m_aret hx hb hr hlk V (Nat.zero_le _) (Nat.zero_le _) dX0_mover_8
-- X0_move
def f_X0_move (N : Nat) (σ : mSt) (a0 : Nat) : Option (Unit × mSt) := if a0 < 16 then (f_X0_mover N σ a0).bind fun q5 => if q5.1 < 32 then some ((), (mUp (mUp (mUp (mUp q5.2 19 q5.1 ((q5.2 19 q5.1) + (q5.2 11 a0))) 14 a0 (1 - ((mUp q5.2 19 q5.1 ((q5.2 19 q5.1) + (q5.2 11 a0))) 14 a0))) 16 a0 0) 15 a0 (((mUp (mUp (mUp q5.2 19 q5.1 ((q5.2 19 q5.1) + (q5.2 11 a0))) 14 a0 (1 - ((mUp q5.2 19 q5.1 ((q5.2 19 q5.1) + (q5.2 11 a0))) 14 a0))) 16 a0 0) 15 a0) + 1))) else none else none
set_option maxHeartbeats 4000000 in
set_option maxRecDepth 100000 in
theorem c_X0_move {l : Launch} {D : va_G} {y : Nat → ClassId} {ad : Nat → Nat} {N : Nat} {σ : mSt} {a0 : Nat} {q : Unit × mSt} (hstk : l.stackTraces = false) (h : f_X0_move N σ a0 = some q) : mC l yX0_move wsX0_move { frames := 2, cells := 0, slots := 0, locals := 41 } D y 80 ad mZ (mS y ad σ) [.ref (ad (32 + a0))] none (mS y ad q.2) 0 0 := by
  refine m_start (cc := cX0_move) (maxL := 1) (ret := none) (by decide) rfl (Nat.le_of_ble_eq_true rfl) (fun p e s m args below meth c ls hB _ V Z hl => ?_)
  obtain ⟨hx, hb, hml, hown, hts, hr, hlk⟩ := id hB
  have hl : lv_has ls 1 [(0, .ref (ad (32 + a0)))] := hl
  rw [f_X0_move] at h
  obtain ⟨hg4, h⟩ := gd_s h
  refine lv_aload_n hx hb dX0_move_0 rfl (lv_at hl 0 rfl) ?_
  obtain ⟨q5, hq5, h⟩ := bd_s h
  obtain ⟨hg6, h⟩ := gd_s h
  refine kSS (As := []) (rest := []) ⟨hx, hb, hml, hown, hts⟩ Z V (c_X0_mover (l := l) (D := D) (y := y) (ad := ad) hstk hq5) (cwV 0 hts gX0_move_X0_mover rfl rfl rfl (by decide +kernel) ⟨Nat.le_of_ble_eq_true rfl, Nat.le_of_ble_eq_true rfl⟩) (by omega) (mS_G y ad _ hg4) rfl rfl hl.1 rfl (Nat.le_of_ble_eq_true rfl) ⟨Nat.zero_le _, Nat.zero_le _⟩ rfl dX0_move_1 (fun H locs V => ?_)
  refine lv_dup hx hb dX0_move_4 rfl ?_
  refine gS_S hx hb hts hown (fun _ h => List.mem_cons_of_mem _ (List.mem_append_left _ (List.mem_append_right _ h))) V hg6 1 19 (by decide) rfl (hts _ (List.mem_of_getElem? (i := 1) rfl)) dX0_move_5 ?_
  refine lv_aload_n hx hb dX0_move_8 rfl (lv_at hl 0 rfl) ?_
  refine gS_G hx hb hts hown (fun _ h => List.mem_cons_of_mem _ (List.mem_append_right _ h)) V hg4 1 11 (by decide) rfl (hts _ (List.mem_of_getElem? (i := 2) rfl)) dX0_move_9 ?_
  refine lv_iadd hx hb dX0_move_12 ?_
  refine pS_S hx hb hts hown (fun _ h => List.mem_cons_of_mem _ (List.mem_append_left _ (List.mem_append_right _ h))) V hg6 1 19 (by decide) rfl (hts _ (List.mem_of_getElem? (i := 1) rfl)) dX0_move_13 (fun H locs V => ?_)
  refine lv_aload_n hx hb dX0_move_16 rfl (lv_at hl 0 rfl) ?_
  refine lv_iconst (v := 1) hx hb dX0_move_17 (by decide) ?_
  refine lv_aload_n hx hb dX0_move_18 rfl (lv_at hl 0 rfl) ?_
  refine gS_G hx hb hts hown (fun _ h => List.mem_cons_of_mem _ (List.mem_append_right _ h)) V hg4 4 14 (by decide) rfl (hts _ (List.mem_of_getElem? (i := 3) rfl)) dX0_move_19 ?_
  refine lv_isub hx hb dX0_move_22 ?_
  refine pS_G hx hb hts hown (fun _ h => List.mem_cons_of_mem _ (List.mem_append_right _ h)) V hg4 4 14 (by decide) rfl (hts _ (List.mem_of_getElem? (i := 3) rfl)) dX0_move_23 (fun H locs V => ?_)
  refine lv_aload_n hx hb dX0_move_26 rfl (lv_at hl 0 rfl) ?_
  refine lv_iconst (v := 0) hx hb dX0_move_27 (by decide) ?_
  refine pS_G hx hb hts hown (fun _ h => List.mem_cons_of_mem _ (List.mem_append_right _ h)) V hg4 6 16 (by decide) rfl (hts _ (List.mem_of_getElem? (i := 4) rfl)) dX0_move_28 (fun H locs V => ?_)
  refine lv_aload_n hx hb dX0_move_31 rfl (lv_at hl 0 rfl) ?_
  refine lv_dup hx hb dX0_move_32 rfl ?_
  refine gS_G hx hb hts hown (fun _ h => List.mem_cons_of_mem _ (List.mem_append_right _ h)) V hg4 5 15 (by decide) rfl (hts _ (List.mem_of_getElem? (i := 5) rfl)) dX0_move_33 ?_
  refine lv_iconst (v := 1) hx hb dX0_move_36 (by decide) ?_
  refine lv_iadd hx hb dX0_move_37 ?_
  refine pS_G hx hb hts hown (fun _ h => List.mem_cons_of_mem _ (List.mem_append_right _ h)) V hg4 5 15 (by decide) rfl (hts _ (List.mem_of_getElem? (i := 5) rfl)) dX0_move_38 (fun H locs V => ?_)
  obtain rfl := Option.some.inj h
  exact m_vret hx hb hr hlk V (Nat.zero_le _) (Nat.zero_le _) dX0_move_41
-- X0_tick
def f_X0_tick_34 (N : Nat) (a0 : Nat)  (σ : mSt)  : Option (Int32 × mSt) := if a0 < 16 then (f_X0_mover N σ a0).bind fun q10 => if q10.1 < 32 then if (q10.2 19 q10.1) = 0 then some (1, q10.2) else some (0, q10.2) else none else none
set_option maxHeartbeats 4000000 in
set_option maxRecDepth 100000 in
theorem w_X0_tick_34 {l : Launch} {D : va_G} {y : Nat → ClassId} {ad : Nat → Nat} {N : Nat} {p : Program} {e : Env} {s : State} {m : MethodId} {args : Array Value} {below : List Frame} {meth : Method} {c : Code} (hstk : l.stackTraces = false) (Z : mZ (mFree 80 ad s.heap.size) s) (hB : mBd p s m args meth c cX0_tick 1 wsX0_tick RX0 (some .boolean)) {a0 : Nat} {q : Int32 × mSt}   : ∀ (σ : mSt) , f_X0_tick_34 N a0  σ = some q → ∀ (H : Heap) (locs : List Loc) (ls : Array Slot), mV D y (mFree 80 ad s.heap.size) s s.heap H locs 80 ad (mS y ad σ) → lv_has ls 1 [(0, .ref (ad (32 + a0)))] → W p l e { frames := 2, cells := 0, slots := 0, locals := 41 } s m args below meth c H locs 0 0 (MQ below (mQ (some (.int q.1)) D 80 ad (mS y ad q.2) s.heap.size) args s 0 0 (mFree 80 ad s.heap.size)) (F0 m 34 ls []) := by
  obtain ⟨hx, hb, hml, hown, hts, hr, hlk⟩ := id hB
  intro σ h H locs ls V hl
  rw [f_X0_tick_34] at h
  obtain ⟨hg9, h⟩ := gd_s h
  refine lv_aload_n hx hb dX0_tick_34 rfl (lv_at hl 0 rfl) ?_
  obtain ⟨q10, hq10, h⟩ := bd_s h
  obtain ⟨hg11, h⟩ := gd_s h
  refine kSS (As := []) (rest := []) ⟨hx, hb, hml, hown, hts⟩ Z V (c_X0_mover (l := l) (D := D) (y := y) (ad := ad) hstk hq10) (cwV 0 hts gX0_tick_X0_mover rfl rfl rfl (by decide +kernel) ⟨Nat.le_of_ble_eq_true rfl, Nat.le_of_ble_eq_true rfl⟩) (by omega) (mS_G y ad _ hg9) rfl rfl hl.1 rfl (Nat.le_of_ble_eq_true rfl) ⟨Nat.zero_le _, Nat.zero_le _⟩ rfl dX0_tick_35 (fun H locs V => ?_)
  refine gS_S hx hb hts hown (fun _ h => List.mem_cons_of_mem _ (List.mem_append_right _ h)) V hg11 1 19 (by decide) rfl (hts _ (List.mem_of_getElem? (i := 3) rfl)) dX0_tick_38 ?_
  refine lv_if_ne (tgt := 48) hx hb dX0_tick_41 (by decide) (fun hc12 => ?_) (fun hc12 => ?_)
  · replace h := ite_f hc12 h
    refine lv_iconst (v := 0) hx hb dX0_tick_48 (by decide) ?_
    obtain rfl := Option.some.inj h
    exact m_zret hx hb hr hlk V (Or.inl rfl) (Nat.zero_le _) (Nat.zero_le _) dX0_tick_49
  · replace h := ite_t hc12 h
    refine lv_iconst (v := 1) hx hb dX0_tick_44 (by decide) ?_
    refine lv_goto (tgt := 49) hx hb dX0_tick_45 (by decide) ?_
    obtain rfl := Option.some.inj h
    exact m_zret hx hb hr hlk V (Or.inr rfl) (Nat.zero_le _) (Nat.zero_le _) dX0_tick_49
def f_X0_tick (N : Nat) (σ : mSt) (a0 : Nat) : Option (Int32 × mSt) := if a0 < 16 then if ((mUp σ 16 a0 ((σ 16 a0) + 1)) 16 a0) ≤ ((mUp σ 16 a0 ((σ 16 a0) + 1)) 12 a0) then f_X0_tick_34 N a0 (mUp σ 16 a0 ((σ 16 a0) + 1)) else (f_X0_mover N (mUp σ 16 a0 ((σ 16 a0) + 1)) a0).bind fun q15 => if q15.1 < 32 then f_X0_tick_34 N a0 (mUp q15.2 19 q15.1 ((q15.2 19 q15.1) - 1)) else none else none
set_option maxHeartbeats 4000000 in
set_option maxRecDepth 100000 in
theorem c_X0_tick {l : Launch} {D : va_G} {y : Nat → ClassId} {ad : Nat → Nat} {N : Nat} {σ : mSt} {a0 : Nat} {q : Int32 × mSt} (hstk : l.stackTraces = false) (h : f_X0_tick N σ a0 = some q) : mC l yX0_tick wsX0_tick { frames := 2, cells := 0, slots := 0, locals := 41 } D y 80 ad mZ (mS y ad σ) [.ref (ad (32 + a0))] (some (.int q.1)) (mS y ad q.2) 0 0 := by
  refine m_start (cc := cX0_tick) (maxL := 1) (ret := (some .boolean)) (by decide) rfl (Nat.le_of_ble_eq_true rfl) (fun p e s m args below meth c ls hB _ V Z hl => ?_)
  obtain ⟨hx, hb, hml, hown, hts, hr, hlk⟩ := id hB
  have hl : lv_has ls 1 [(0, .ref (ad (32 + a0)))] := hl
  rw [f_X0_tick] at h
  obtain ⟨hg13, h⟩ := gd_s h
  refine lv_aload_n hx hb dX0_tick_0 rfl (lv_at hl 0 rfl) ?_
  refine lv_dup hx hb dX0_tick_1 rfl ?_
  refine gS_G hx hb hts hown (fun _ h => List.mem_cons_of_mem _ (List.mem_append_left _ (List.mem_append_right _ h))) V hg13 6 16 (by decide) rfl (hts _ (List.mem_of_getElem? (i := 1) rfl)) dX0_tick_2 ?_
  refine lv_iconst (v := 1) hx hb dX0_tick_5 (by decide) ?_
  refine lv_iadd hx hb dX0_tick_6 ?_
  refine pS_G hx hb hts hown (fun _ h => List.mem_cons_of_mem _ (List.mem_append_left _ (List.mem_append_right _ h))) V hg13 6 16 (by decide) rfl (hts _ (List.mem_of_getElem? (i := 1) rfl)) dX0_tick_7 (fun H locs V => ?_)
  refine lv_aload_n hx hb dX0_tick_10 rfl (lv_at hl 0 rfl) ?_
  refine gS_G hx hb hts hown (fun _ h => List.mem_cons_of_mem _ (List.mem_append_left _ (List.mem_append_right _ h))) V hg13 6 16 (by decide) rfl (hts _ (List.mem_of_getElem? (i := 1) rfl)) dX0_tick_11 ?_
  refine lv_aload_n hx hb dX0_tick_14 rfl (lv_at hl 0 rfl) ?_
  refine gS_G hx hb hts hown (fun _ h => List.mem_cons_of_mem _ (List.mem_append_left _ (List.mem_append_right _ h))) V hg13 2 12 (by decide) rfl (hts _ (List.mem_of_getElem? (i := 2) rfl)) dX0_tick_15 ?_
  refine lv_icmp_le (tgt := 34) hx hb dX0_tick_18 (by decide) (fun hc14 => ?_) (fun hc14 => ?_)
  · replace h := ite_t hc14 h
    exact w_X0_tick_34 hstk Z hB _ h _ _ _ V (lv_sub hl [0] rfl)
  · replace h := ite_f hc14 h
    refine lv_aload_n hx hb dX0_tick_21 rfl (lv_at hl 0 rfl) ?_
    obtain ⟨q15, hq15, h⟩ := bd_s h
    obtain ⟨hg16, h⟩ := gd_s h
    refine kSS (As := []) (rest := []) ⟨hx, hb, hml, hown, hts⟩ Z V (c_X0_mover (l := l) (D := D) (y := y) (ad := ad) hstk hq15) (cwV 0 hts gX0_tick_X0_mover rfl rfl rfl (by decide +kernel) ⟨Nat.le_of_ble_eq_true rfl, Nat.le_of_ble_eq_true rfl⟩) (by omega) (mS_G y ad _ hg13) rfl rfl hl.1 rfl (Nat.le_of_ble_eq_true rfl) ⟨Nat.zero_le _, Nat.zero_le _⟩ rfl dX0_tick_22 (fun H locs V => ?_)
    refine lv_dup hx hb dX0_tick_25 rfl ?_
    refine gS_S hx hb hts hown (fun _ h => List.mem_cons_of_mem _ (List.mem_append_right _ h)) V hg16 1 19 (by decide) rfl (hts _ (List.mem_of_getElem? (i := 3) rfl)) dX0_tick_26 ?_
    refine lv_iconst (v := 1) hx hb dX0_tick_29 (by decide) ?_
    refine lv_isub hx hb dX0_tick_30 ?_
    refine pS_S hx hb hts hown (fun _ h => List.mem_cons_of_mem _ (List.mem_append_right _ h)) V hg16 1 19 (by decide) rfl (hts _ (List.mem_of_getElem? (i := 3) rfl)) dX0_tick_31 (fun H locs V => ?_)
    exact w_X0_tick_34 hstk Z hB _ h _ _ _ V (lv_sub hl [0] rfl)
-- X0_missingFor
def f_X0_missingFor (N : Nat) (σ : mSt) (a0 : Nat) (a1 : Int32) : Option (Int32 × mSt) := if a0 < 16 then (f_X0_mover N σ a0).bind fun q5 => if q5.1 < 32 then some (mMax 0 (((mMax 0 (a1 - (mMax 0 ((σ 12 a0) - (σ 16 a0))))) + 1) - (q5.2 19 q5.1)), q5.2) else none else none
set_option maxHeartbeats 4000000 in
set_option maxRecDepth 100000 in
theorem c_X0_missingFor {l : Launch} {D : va_G} {y : Nat → ClassId} {ad : Nat → Nat} {N : Nat} {σ : mSt} {a0 : Nat} {a1 : Int32} {q : Int32 × mSt} (hstk : l.stackTraces = false) (h : f_X0_missingFor N σ a0 a1 = some q) : mC l yX0_missingFor wsX0_missingFor { frames := 2, cells := 0, slots := 0, locals := 41 } D y 80 ad mZ (mS y ad σ) [.ref (ad (32 + a0)), .int a1] (some (.int q.1)) (mS y ad q.2) 0 0 := by
  refine m_start (cc := cX0_missingFor) (maxL := 4) (ret := (some .int)) (by decide) rfl (Nat.le_of_ble_eq_true rfl) (fun p e s m args below meth c ls hB _ V Z hl => ?_)
  obtain ⟨hx, hb, hml, hown, hts, hr, hlk⟩ := id hB
  have hl : lv_has ls 4 [(0, .ref (ad (32 + a0))), (1, .int a1)] := hl
  rw [f_X0_missingFor] at h
  obtain ⟨hg4, h⟩ := gd_s h
  refine lv_iconst (v := 0) hx hb dX0_missingFor_0 (by decide) ?_
  refine lv_aload_n hx hb dX0_missingFor_1 rfl (lv_at hl 0 rfl) ?_
  refine gS_G hx hb hts hown (fun _ h => List.mem_cons_of_mem _ (List.mem_append_left _ (List.mem_append_right _ h))) V hg4 2 12 (by decide) rfl (hts _ (List.mem_of_getElem? (i := 1) rfl)) dX0_missingFor_2 ?_
  refine lv_aload_n hx hb dX0_missingFor_5 rfl (lv_at hl 0 rfl) ?_
  refine gS_G hx hb hts hown (fun _ h => List.mem_cons_of_mem _ (List.mem_append_left _ (List.mem_append_right _ h))) V hg4 6 16 (by decide) rfl (hts _ (List.mem_of_getElem? (i := 2) rfl)) dX0_missingFor_6 ?_
  refine lv_isub hx hb dX0_missingFor_9 ?_
  refine m_max hx hb hml hl.1 hown (hts _ (List.mem_of_getElem? (i := 3) rfl)) (hts _ (List.mem_of_getElem? (i := 4) rfl)) (hts _ (List.mem_of_getElem? (i := 5) rfl)) (hts _ (List.mem_of_getElem? (i := 6) rfl)) (Nat.le_of_ble_eq_true rfl) (Nat.le_of_ble_eq_true rfl) (Nat.zero_le _) (Nat.zero_le _) dX0_missingFor_10 ?_
  refine lv_istore_n (lv' := [(2, .int (mMax 0 ((σ 12 a0) - (σ 16 a0)))), (0, .ref (ad (32 + a0))), (1, .int a1)]) hx hb dX0_missingFor_13 rfl hl (by decide) rfl (fun ls hl => ?_)
  refine lv_iconst (v := 0) hx hb dX0_missingFor_14 (by decide) ?_
  refine lv_iload_n hx hb dX0_missingFor_15 rfl (lv_at hl 2 rfl) ?_
  refine lv_iload_n hx hb dX0_missingFor_16 rfl (lv_at hl 0 rfl) ?_
  refine lv_isub hx hb dX0_missingFor_17 ?_
  refine m_max hx hb hml hl.1 hown (hts _ (List.mem_of_getElem? (i := 3) rfl)) (hts _ (List.mem_of_getElem? (i := 4) rfl)) (hts _ (List.mem_of_getElem? (i := 5) rfl)) (hts _ (List.mem_of_getElem? (i := 6) rfl)) (Nat.le_of_ble_eq_true rfl) (Nat.le_of_ble_eq_true rfl) (Nat.zero_le _) (Nat.zero_le _) dX0_missingFor_18 ?_
  refine lv_istore_n (lv' := [(3, .int (mMax 0 (a1 - (mMax 0 ((σ 12 a0) - (σ 16 a0)))))), (2, .int (mMax 0 ((σ 12 a0) - (σ 16 a0)))), (0, .ref (ad (32 + a0))), (1, .int a1)]) hx hb dX0_missingFor_21 rfl hl (by decide) rfl (fun ls hl => ?_)
  refine lv_iconst (v := 0) hx hb dX0_missingFor_22 (by decide) ?_
  refine lv_iload_n hx hb dX0_missingFor_23 rfl (lv_at hl 0 rfl) ?_
  refine lv_iconst (v := 1) hx hb dX0_missingFor_24 (by decide) ?_
  refine lv_iadd hx hb dX0_missingFor_25 ?_
  refine lv_aload_n hx hb dX0_missingFor_26 rfl (lv_at hl 2 rfl) ?_
  obtain ⟨q5, hq5, h⟩ := bd_s h
  obtain ⟨hg6, h⟩ := gd_s h
  refine kSS (As := []) (rest := [.int ((mMax 0 (a1 - (mMax 0 ((σ 12 a0) - (σ 16 a0))))) + 1), .int 0]) ⟨hx, hb, hml, hown, hts⟩ Z V (c_X0_mover (l := l) (D := D) (y := y) (ad := ad) hstk hq5) (cwV 0 hts gX0_missingFor_X0_mover rfl rfl rfl (by decide +kernel) ⟨Nat.le_of_ble_eq_true rfl, Nat.le_of_ble_eq_true rfl⟩) (by omega) (mS_G y ad _ hg4) rfl rfl hl.1 rfl (Nat.le_of_ble_eq_true rfl) ⟨Nat.zero_le _, Nat.zero_le _⟩ rfl dX0_missingFor_27 (fun H locs V => ?_)
  refine gS_S hx hb hts hown (fun _ h => List.mem_cons_of_mem _ (List.mem_append_right _ h)) V hg6 1 19 (by decide) rfl (hts _ (List.mem_of_getElem? (i := 7) rfl)) dX0_missingFor_30 ?_
  refine lv_isub hx hb dX0_missingFor_33 ?_
  refine m_max hx hb hml hl.1 hown (hts _ (List.mem_of_getElem? (i := 3) rfl)) (hts _ (List.mem_of_getElem? (i := 4) rfl)) (hts _ (List.mem_of_getElem? (i := 5) rfl)) (hts _ (List.mem_of_getElem? (i := 6) rfl)) (Nat.le_of_ble_eq_true rfl) (Nat.le_of_ble_eq_true rfl) (Nat.zero_le _) (Nat.zero_le _) dX0_missingFor_34 ?_
  obtain rfl := Option.some.inj h
  exact m_iret hx hb hr hlk V (Nat.zero_le _) (Nat.zero_le _) dX0_missingFor_37
-- X1_open
def f_X1_open (N : Nat) (σ : mSt) (a0 : Nat) (a1 : Int32) (a2 : Int32) (a3 : Int32) (a4 : Int32) : Option (Unit × mSt) := if a0 < 20 then some ((), (mUp (mUp (mUp (mUp (mUp σ 5 a0 a1) 6 a0 a2) 7 a0 a3) 8 a0 a4) 9 a0 0)) else none
set_option maxHeartbeats 4000000 in
set_option maxRecDepth 100000 in
theorem c_X1_open {l : Launch} {D : va_G} {y : Nat → ClassId} {ad : Nat → Nat} {N : Nat} {σ : mSt} {a0 : Nat} {a1 : Int32} {a2 : Int32} {a3 : Int32} {a4 : Int32} {q : Unit × mSt} (hstk : l.stackTraces = false) (h : f_X1_open N σ a0 a1 a2 a3 a4 = some q) : mC l yX1_open wsX1_open { frames := 0, cells := 0, slots := 0, locals := 0 } D y 80 ad mZ (mS y ad σ) [.ref (ad (12 + a0)), .int a1, .int a2, .int a3, .int a4] none (mS y ad q.2) 0 0 := by
  refine m_start (cc := cX1_open) (maxL := 5) (ret := none) (by decide) rfl (Nat.le_of_ble_eq_true rfl) (fun p e s m args below meth c ls hB _ V Z hl => ?_)
  obtain ⟨hx, hb, hml, hown, hts, hr, hlk⟩ := id hB
  have hl : lv_has ls 5 [(0, .ref (ad (12 + a0))), (1, .int a1), (2, .int a2), (3, .int a3), (4, .int a4)] := hl
  rw [f_X1_open] at h
  obtain ⟨hg2, h⟩ := gd_s h
  refine lv_aload_n hx hb dX1_open_0 rfl (lv_at hl 0 rfl) ?_
  refine lv_iload_n hx hb dX1_open_1 rfl (lv_at hl 1 rfl) ?_
  refine pS_L hx hb hts hown (fun _ h => List.mem_cons_of_mem _ (List.mem_append_right _ h)) V hg2 0 5 (by decide) rfl (hts _ (List.mem_of_getElem? (i := 1) rfl)) dX1_open_2 (fun H locs V => ?_)
  refine lv_aload_n hx hb dX1_open_5 rfl (lv_at hl 0 rfl) ?_
  refine lv_iload_n hx hb dX1_open_6 rfl (lv_at hl 2 rfl) ?_
  refine pS_L hx hb hts hown (fun _ h => List.mem_cons_of_mem _ (List.mem_append_right _ h)) V hg2 1 6 (by decide) rfl (hts _ (List.mem_of_getElem? (i := 2) rfl)) dX1_open_7 (fun H locs V => ?_)
  refine lv_aload_n hx hb dX1_open_10 rfl (lv_at hl 0 rfl) ?_
  refine lv_iload_n hx hb dX1_open_11 rfl (lv_at hl 3 rfl) ?_
  refine pS_L hx hb hts hown (fun _ h => List.mem_cons_of_mem _ (List.mem_append_right _ h)) V hg2 2 7 (by decide) rfl (hts _ (List.mem_of_getElem? (i := 3) rfl)) dX1_open_12 (fun H locs V => ?_)
  refine lv_aload_n hx hb dX1_open_15 rfl (lv_at hl 0 rfl) ?_
  refine lv_iload hx hb dX1_open_16 (lv_at hl 4 rfl) ?_
  refine pS_L hx hb hts hown (fun _ h => List.mem_cons_of_mem _ (List.mem_append_right _ h)) V hg2 3 8 (by decide) rfl (hts _ (List.mem_of_getElem? (i := 4) rfl)) dX1_open_18 (fun H locs V => ?_)
  refine lv_aload_n hx hb dX1_open_21 rfl (lv_at hl 0 rfl) ?_
  refine lv_iconst (v := 0) hx hb dX1_open_22 (by decide) ?_
  refine pS_L hx hb hts hown (fun _ h => List.mem_cons_of_mem _ (List.mem_append_right _ h)) V hg2 4 9 (by decide) rfl (hts _ (List.mem_of_getElem? (i := 5) rfl)) dX1_open_23 (fun H locs V => ?_)
  obtain rfl := Option.some.inj h
  exact m_vret hx hb hr hlk V (Nat.zero_le _) (Nat.zero_le _) dX1_open_26
-- X1_copy
def f_X1_copy (N : Nat) (σ τ : mSt) (a0 : Nat) (a1 : Nat) : Option (Unit × mSt × mSt) := if a0 < 20 then if a1 < 20 then some ((), σ, (mUp (mUp (mUp (mUp (mUp τ 5 a0 (σ 5 a1)) 6 a0 (σ 6 a1)) 7 a0 (σ 7 a1)) 8 a0 (σ 8 a1)) 9 a0 (σ 9 a1))) else none else none
set_option maxHeartbeats 4000000 in
set_option maxRecDepth 100000 in
theorem c_X1_copy {l : Launch} {D : va_G} {y : Nat → ClassId} {ad : Nat → Nat} {N : Nat} {σ τ : mSt} {a0 : Nat} {a1 : Nat} {q : Unit × mSt × mSt} (hstk : l.stackTraces = false) (h : f_X1_copy N σ τ a0 a1 = some q) : mC l yX1_copy wsX1_copy { frames := 0, cells := 0, slots := 0, locals := 0 } D y 161 ad mZ (mB y ad σ τ) [.ref (ad (80 + (12 + a0))), .ref (ad (12 + a1))] none (mB y ad q.2.1 q.2.2) 0 0 := by
  refine m_start (cc := cX1_copy) (maxL := 2) (ret := none) (by decide) rfl (Nat.le_of_ble_eq_true rfl) (fun p e s m args below meth c ls hB _ V Z hl => ?_)
  obtain ⟨hx, hb, hml, hown, hts, hr, hlk⟩ := id hB
  have hl : lv_has ls 2 [(0, .ref (ad (80 + (12 + a0)))), (1, .ref (ad (12 + a1)))] := hl
  rw [f_X1_copy] at h
  obtain ⟨hg3, h⟩ := gd_s h
  obtain ⟨hg4, h⟩ := gd_s h
  refine lv_aload_n hx hb dX1_copy_0 rfl (lv_at hl 0 rfl) ?_
  refine lv_aload_n hx hb dX1_copy_1 rfl (lv_at hl 1 rfl) ?_
  refine gB_L hx hb hts hown (fun _ h => List.mem_cons_of_mem _ (List.mem_append_right _ h)) V hg4 0 5 (by decide) rfl (hts _ (List.mem_of_getElem? (i := 1) rfl)) dX1_copy_2 ?_
  refine pC_L hx hb hts hown (fun _ h => List.mem_cons_of_mem _ (List.mem_append_right _ h)) V hg3 0 5 (by decide) rfl (hts _ (List.mem_of_getElem? (i := 1) rfl)) dX1_copy_5 (fun H locs V => ?_)
  refine lv_aload_n hx hb dX1_copy_8 rfl (lv_at hl 0 rfl) ?_
  refine lv_aload_n hx hb dX1_copy_9 rfl (lv_at hl 1 rfl) ?_
  refine gB_L hx hb hts hown (fun _ h => List.mem_cons_of_mem _ (List.mem_append_right _ h)) V hg4 1 6 (by decide) rfl (hts _ (List.mem_of_getElem? (i := 2) rfl)) dX1_copy_10 ?_
  refine pC_L hx hb hts hown (fun _ h => List.mem_cons_of_mem _ (List.mem_append_right _ h)) V hg3 1 6 (by decide) rfl (hts _ (List.mem_of_getElem? (i := 2) rfl)) dX1_copy_13 (fun H locs V => ?_)
  refine lv_aload_n hx hb dX1_copy_16 rfl (lv_at hl 0 rfl) ?_
  refine lv_aload_n hx hb dX1_copy_17 rfl (lv_at hl 1 rfl) ?_
  refine gB_L hx hb hts hown (fun _ h => List.mem_cons_of_mem _ (List.mem_append_right _ h)) V hg4 2 7 (by decide) rfl (hts _ (List.mem_of_getElem? (i := 3) rfl)) dX1_copy_18 ?_
  refine pC_L hx hb hts hown (fun _ h => List.mem_cons_of_mem _ (List.mem_append_right _ h)) V hg3 2 7 (by decide) rfl (hts _ (List.mem_of_getElem? (i := 3) rfl)) dX1_copy_21 (fun H locs V => ?_)
  refine lv_aload_n hx hb dX1_copy_24 rfl (lv_at hl 0 rfl) ?_
  refine lv_aload_n hx hb dX1_copy_25 rfl (lv_at hl 1 rfl) ?_
  refine gB_L hx hb hts hown (fun _ h => List.mem_cons_of_mem _ (List.mem_append_right _ h)) V hg4 3 8 (by decide) rfl (hts _ (List.mem_of_getElem? (i := 4) rfl)) dX1_copy_26 ?_
  refine pC_L hx hb hts hown (fun _ h => List.mem_cons_of_mem _ (List.mem_append_right _ h)) V hg3 3 8 (by decide) rfl (hts _ (List.mem_of_getElem? (i := 4) rfl)) dX1_copy_29 (fun H locs V => ?_)
  refine lv_aload_n hx hb dX1_copy_32 rfl (lv_at hl 0 rfl) ?_
  refine lv_aload_n hx hb dX1_copy_33 rfl (lv_at hl 1 rfl) ?_
  refine gB_L hx hb hts hown (fun _ h => List.mem_cons_of_mem _ (List.mem_append_right _ h)) V hg4 4 9 (by decide) rfl (hts _ (List.mem_of_getElem? (i := 5) rfl)) dX1_copy_34 ?_
  refine pC_L hx hb hts hown (fun _ h => List.mem_cons_of_mem _ (List.mem_append_right _ h)) V hg3 4 9 (by decide) rfl (hts _ (List.mem_of_getElem? (i := 5) rfl)) dX1_copy_37 (fun H locs V => ?_)
  obtain rfl := Option.some.inj h
  exact m_vret hx hb hr hlk V (Nat.zero_le _) (Nat.zero_le _) dX1_copy_40
-- X1_addInterest
def f_X1_addInterest (N : Nat) (σ : mSt) (a0 : Nat) : Option (Unit × mSt) := if a0 < 20 then some ((), (mUp σ 6 a0 (mMin 1000000 (((σ 6 a0) + (((σ 6 a0) * (σ 7 a0)) / 1000)) + 1)))) else none
set_option maxHeartbeats 4000000 in
set_option maxRecDepth 100000 in
theorem c_X1_addInterest {l : Launch} {D : va_G} {y : Nat → ClassId} {ad : Nat → Nat} {N : Nat} {σ : mSt} {a0 : Nat} {q : Unit × mSt} (hstk : l.stackTraces = false) (h : f_X1_addInterest N σ a0 = some q) : mC l yX1_addInterest wsX1_addInterest { frames := 1, cells := 0, slots := 0, locals := 14 } D y 80 ad mZ (mS y ad σ) [.ref (ad (12 + a0))] none (mS y ad q.2) 0 0 := by
  refine m_start (cc := cX1_addInterest) (maxL := 1) (ret := none) (by decide) rfl (Nat.le_of_ble_eq_true rfl) (fun p e s m args below meth c ls hB _ V Z hl => ?_)
  obtain ⟨hx, hb, hml, hown, hts, hr, hlk⟩ := id hB
  have hl : lv_has ls 1 [(0, .ref (ad (12 + a0)))] := hl
  rw [f_X1_addInterest] at h
  obtain ⟨hg2, h⟩ := gd_s h
  refine lv_aload_n hx hb dX1_addInterest_0 rfl (lv_at hl 0 rfl) ?_
  refine lv_ldc (v := 1000000) hx hb hown (hts _ (List.mem_of_getElem? (i := 1) rfl)) dX1_addInterest_1 ?_
  refine lv_aload_n hx hb dX1_addInterest_3 rfl (lv_at hl 0 rfl) ?_
  refine gS_L hx hb hts hown (fun _ h => List.mem_cons_of_mem _ (List.mem_append_right _ h)) V hg2 1 6 (by decide) rfl (hts _ (List.mem_of_getElem? (i := 2) rfl)) dX1_addInterest_4 ?_
  refine lv_aload_n hx hb dX1_addInterest_7 rfl (lv_at hl 0 rfl) ?_
  refine gS_L hx hb hts hown (fun _ h => List.mem_cons_of_mem _ (List.mem_append_right _ h)) V hg2 1 6 (by decide) rfl (hts _ (List.mem_of_getElem? (i := 2) rfl)) dX1_addInterest_8 ?_
  refine lv_aload_n hx hb dX1_addInterest_11 rfl (lv_at hl 0 rfl) ?_
  refine gS_L hx hb hts hown (fun _ h => List.mem_cons_of_mem _ (List.mem_append_right _ h)) V hg2 2 7 (by decide) rfl (hts _ (List.mem_of_getElem? (i := 3) rfl)) dX1_addInterest_12 ?_
  refine lv_imul hx hb dX1_addInterest_15 ?_
  refine lv_sipush (v := 1000) hx hb dX1_addInterest_16 (by decide) ?_
  refine lv_idiv hx hb dX1_addInterest_19 (by decide) ?_
  refine lv_iadd hx hb dX1_addInterest_20 ?_
  refine lv_iconst (v := 1) hx hb dX1_addInterest_21 (by decide) ?_
  refine lv_iadd hx hb dX1_addInterest_22 ?_
  refine m_min hx hb hml hl.1 hown (hts _ (List.mem_of_getElem? (i := 4) rfl)) (hts _ (List.mem_of_getElem? (i := 5) rfl)) (hts _ (List.mem_of_getElem? (i := 6) rfl)) (hts _ (List.mem_of_getElem? (i := 7) rfl)) (Nat.le_of_ble_eq_true rfl) (Nat.le_of_ble_eq_true rfl) (Nat.zero_le _) (Nat.zero_le _) dX1_addInterest_23 ?_
  refine pS_L hx hb hts hown (fun _ h => List.mem_cons_of_mem _ (List.mem_append_right _ h)) V hg2 1 6 (by decide) rfl (hts _ (List.mem_of_getElem? (i := 2) rfl)) dX1_addInterest_26 (fun H locs V => ?_)
  obtain rfl := Option.some.inj h
  exact m_vret hx hb hr hlk V (Nat.zero_le _) (Nat.zero_le _) dX1_addInterest_29
-- X2_copy
def f_X2_copy (N : Nat) (σ τ : mSt) (a0 : Nat) (a1 : Nat) : Option (Unit × mSt × mSt) := if a0 < 8 then if a1 < 8 then some ((), σ, (mUp (mUp (mUp (mUp (mUp τ 0 a0 (σ 0 a1)) 1 a0 (σ 1 a1)) 2 a0 (σ 2 a1)) 3 a0 (σ 3 a1)) 4 a0 (σ 4 a1))) else none else none
set_option maxHeartbeats 4000000 in
set_option maxRecDepth 100000 in
theorem c_X2_copy {l : Launch} {D : va_G} {y : Nat → ClassId} {ad : Nat → Nat} {N : Nat} {σ τ : mSt} {a0 : Nat} {a1 : Nat} {q : Unit × mSt × mSt} (hstk : l.stackTraces = false) (h : f_X2_copy N σ τ a0 a1 = some q) : mC l yX2_copy wsX2_copy { frames := 0, cells := 0, slots := 0, locals := 0 } D y 161 ad mZ (mB y ad σ τ) [.ref (ad (80 + (4 + a0))), .ref (ad (4 + a1))] none (mB y ad q.2.1 q.2.2) 0 0 := by
  refine m_start (cc := cX2_copy) (maxL := 2) (ret := none) (by decide) rfl (Nat.le_of_ble_eq_true rfl) (fun p e s m args below meth c ls hB _ V Z hl => ?_)
  obtain ⟨hx, hb, hml, hown, hts, hr, hlk⟩ := id hB
  have hl : lv_has ls 2 [(0, .ref (ad (80 + (4 + a0)))), (1, .ref (ad (4 + a1)))] := hl
  rw [f_X2_copy] at h
  obtain ⟨hg3, h⟩ := gd_s h
  obtain ⟨hg4, h⟩ := gd_s h
  refine lv_aload_n hx hb dX2_copy_0 rfl (lv_at hl 0 rfl) ?_
  refine lv_aload_n hx hb dX2_copy_1 rfl (lv_at hl 1 rfl) ?_
  refine gB_P hx hb hts hown (fun _ h => List.mem_cons_of_mem _ (List.mem_append_right _ h)) V hg4 0 0 (by decide) rfl (hts _ (List.mem_of_getElem? (i := 1) rfl)) dX2_copy_2 ?_
  refine pC_P hx hb hts hown (fun _ h => List.mem_cons_of_mem _ (List.mem_append_right _ h)) V hg3 0 0 (by decide) rfl (hts _ (List.mem_of_getElem? (i := 1) rfl)) dX2_copy_5 (fun H locs V => ?_)
  refine lv_aload_n hx hb dX2_copy_8 rfl (lv_at hl 0 rfl) ?_
  refine lv_aload_n hx hb dX2_copy_9 rfl (lv_at hl 1 rfl) ?_
  refine gB_P hx hb hts hown (fun _ h => List.mem_cons_of_mem _ (List.mem_append_right _ h)) V hg4 1 1 (by decide) rfl (hts _ (List.mem_of_getElem? (i := 2) rfl)) dX2_copy_10 ?_
  refine pC_P hx hb hts hown (fun _ h => List.mem_cons_of_mem _ (List.mem_append_right _ h)) V hg3 1 1 (by decide) rfl (hts _ (List.mem_of_getElem? (i := 2) rfl)) dX2_copy_13 (fun H locs V => ?_)
  refine lv_aload_n hx hb dX2_copy_16 rfl (lv_at hl 0 rfl) ?_
  refine lv_aload_n hx hb dX2_copy_17 rfl (lv_at hl 1 rfl) ?_
  refine gB_P hx hb hts hown (fun _ h => List.mem_cons_of_mem _ (List.mem_append_right _ h)) V hg4 2 2 (by decide) rfl (hts _ (List.mem_of_getElem? (i := 3) rfl)) dX2_copy_18 ?_
  refine pC_P hx hb hts hown (fun _ h => List.mem_cons_of_mem _ (List.mem_append_right _ h)) V hg3 2 2 (by decide) rfl (hts _ (List.mem_of_getElem? (i := 3) rfl)) dX2_copy_21 (fun H locs V => ?_)
  refine lv_aload_n hx hb dX2_copy_24 rfl (lv_at hl 0 rfl) ?_
  refine lv_aload_n hx hb dX2_copy_25 rfl (lv_at hl 1 rfl) ?_
  refine gB_P hx hb hts hown (fun _ h => List.mem_cons_of_mem _ (List.mem_append_right _ h)) V hg4 3 3 (by decide) rfl (hts _ (List.mem_of_getElem? (i := 4) rfl)) dX2_copy_26 ?_
  refine pC_P hx hb hts hown (fun _ h => List.mem_cons_of_mem _ (List.mem_append_right _ h)) V hg3 3 3 (by decide) rfl (hts _ (List.mem_of_getElem? (i := 4) rfl)) dX2_copy_29 (fun H locs V => ?_)
  refine lv_aload_n hx hb dX2_copy_32 rfl (lv_at hl 0 rfl) ?_
  refine lv_aload_n hx hb dX2_copy_33 rfl (lv_at hl 1 rfl) ?_
  refine gB_P hx hb hts hown (fun _ h => List.mem_cons_of_mem _ (List.mem_append_right _ h)) V hg4 4 4 (by decide) rfl (hts _ (List.mem_of_getElem? (i := 5) rfl)) dX2_copy_34 ?_
  refine pC_P hx hb hts hown (fun _ h => List.mem_cons_of_mem _ (List.mem_append_right _ h)) V hg3 4 4 (by decide) rfl (hts _ (List.mem_of_getElem? (i := 5) rfl)) dX2_copy_37 (fun H locs V => ?_)
  obtain rfl := Option.some.inj h
  exact m_vret hx hb hr hlk V (Nat.zero_le _) (Nat.zero_le _) dX2_copy_40
-- X2_leads
def f_X2_leads (N : Nat) (σ : mSt) (a0 : Nat) (a1 : Nat) : Option (Int32 × mSt) := if a0 < 8 then if a1 < 8 then if (((σ 2 a0) - (σ 3 a0)) - ((σ 2 a1) - (σ 3 a1))) = 0 then if (σ 0 a0) ≤ (σ 0 a1) then some (0, σ) else some (1, σ) else if (((σ 2 a0) - (σ 3 a0)) - ((σ 2 a1) - (σ 3 a1))) ≤ 0 then some (0, σ) else some (1, σ) else none else none
set_option maxHeartbeats 4000000 in
set_option maxRecDepth 100000 in
theorem c_X2_leads {l : Launch} {D : va_G} {y : Nat → ClassId} {ad : Nat → Nat} {N : Nat} {σ : mSt} {a0 : Nat} {a1 : Nat} {q : Int32 × mSt} (hstk : l.stackTraces = false) (h : f_X2_leads N σ a0 a1 = some q) : mC l yX2_leads wsX2_leads { frames := 0, cells := 0, slots := 0, locals := 0 } D y 80 ad mZ (mS y ad σ) [.ref (ad (4 + a0)), .ref (ad (4 + a1))] (some (.int q.1)) (mS y ad q.2) 0 0 := by
  refine m_start (cc := cX2_leads) (maxL := 3) (ret := (some .boolean)) (by decide) rfl (Nat.le_of_ble_eq_true rfl) (fun p e s m args below meth c ls hB _ V Z hl => ?_)
  obtain ⟨hx, hb, hml, hown, hts, hr, hlk⟩ := id hB
  have hl : lv_has ls 3 [(0, .ref (ad (4 + a0))), (1, .ref (ad (4 + a1)))] := hl
  rw [f_X2_leads] at h
  obtain ⟨hg6, h⟩ := gd_s h
  obtain ⟨hg7, h⟩ := gd_s h
  refine lv_aload_n hx hb dX2_leads_0 rfl (lv_at hl 0 rfl) ?_
  refine gS_P hx hb hts hown (fun _ h => List.mem_cons_of_mem _ (List.mem_append_right _ h)) V hg6 2 2 (by decide) rfl (hts _ (List.mem_of_getElem? (i := 1) rfl)) dX2_leads_1 ?_
  refine lv_aload_n hx hb dX2_leads_4 rfl (lv_at hl 0 rfl) ?_
  refine gS_P hx hb hts hown (fun _ h => List.mem_cons_of_mem _ (List.mem_append_right _ h)) V hg6 3 3 (by decide) rfl (hts _ (List.mem_of_getElem? (i := 2) rfl)) dX2_leads_5 ?_
  refine lv_isub hx hb dX2_leads_8 ?_
  refine lv_aload_n hx hb dX2_leads_9 rfl (lv_at hl 1 rfl) ?_
  refine gS_P hx hb hts hown (fun _ h => List.mem_cons_of_mem _ (List.mem_append_right _ h)) V hg7 2 2 (by decide) rfl (hts _ (List.mem_of_getElem? (i := 1) rfl)) dX2_leads_10 ?_
  refine lv_aload_n hx hb dX2_leads_13 rfl (lv_at hl 1 rfl) ?_
  refine gS_P hx hb hts hown (fun _ h => List.mem_cons_of_mem _ (List.mem_append_right _ h)) V hg7 3 3 (by decide) rfl (hts _ (List.mem_of_getElem? (i := 2) rfl)) dX2_leads_14 ?_
  refine lv_isub hx hb dX2_leads_17 ?_
  refine lv_isub hx hb dX2_leads_18 ?_
  refine lv_istore_n (lv' := [(2, .int (((σ 2 a0) - (σ 3 a0)) - ((σ 2 a1) - (σ 3 a1)))), (0, .ref (ad (4 + a0))), (1, .ref (ad (4 + a1)))]) hx hb dX2_leads_19 rfl hl (by decide) rfl (fun ls hl => ?_)
  refine lv_iload_n hx hb dX2_leads_20 rfl (lv_at hl 0 rfl) ?_
  refine lv_if_eq (tgt := 36) hx hb dX2_leads_21 (by decide) (fun hc8 => ?_) (fun hc8 => ?_)
  · replace h := ite_t hc8 h
    refine lv_aload_n hx hb dX2_leads_36 rfl (lv_at hl 1 rfl) ?_
    refine gS_P hx hb hts hown (fun _ h => List.mem_cons_of_mem _ (List.mem_append_right _ h)) V hg6 0 0 (by decide) rfl (hts _ (List.mem_of_getElem? (i := 3) rfl)) dX2_leads_37 ?_
    refine lv_aload_n hx hb dX2_leads_40 rfl (lv_at hl 2 rfl) ?_
    refine gS_P hx hb hts hown (fun _ h => List.mem_cons_of_mem _ (List.mem_append_right _ h)) V hg7 0 0 (by decide) rfl (hts _ (List.mem_of_getElem? (i := 3) rfl)) dX2_leads_41 ?_
    refine lv_icmp_le (tgt := 51) hx hb dX2_leads_44 (by decide) (fun hc9 => ?_) (fun hc9 => ?_)
    · replace h := ite_t hc9 h
      refine lv_iconst (v := 0) hx hb dX2_leads_51 (by decide) ?_
      obtain rfl := Option.some.inj h
      exact m_zret hx hb hr hlk V (Or.inl rfl) (Nat.zero_le _) (Nat.zero_le _) dX2_leads_52
    · replace h := ite_f hc9 h
      refine lv_iconst (v := 1) hx hb dX2_leads_47 (by decide) ?_
      refine lv_goto (tgt := 52) hx hb dX2_leads_48 (by decide) ?_
      obtain rfl := Option.some.inj h
      exact m_zret hx hb hr hlk V (Or.inr rfl) (Nat.zero_le _) (Nat.zero_le _) dX2_leads_52
  · replace h := ite_f hc8 h
    refine lv_iload_n hx hb dX2_leads_24 rfl (lv_at hl 0 rfl) ?_
    refine lv_if_le (tgt := 32) hx hb dX2_leads_25 (by decide) (fun hc10 => ?_) (fun hc10 => ?_)
    · replace h := ite_t hc10 h
      refine lv_iconst (v := 0) hx hb dX2_leads_32 (by decide) ?_
      refine lv_goto (tgt := 52) hx hb dX2_leads_33 (by decide) ?_
      obtain rfl := Option.some.inj h
      exact m_zret hx hb hr hlk V (Or.inl rfl) (Nat.zero_le _) (Nat.zero_le _) dX2_leads_52
    · replace h := ite_f hc10 h
      refine lv_iconst (v := 1) hx hb dX2_leads_28 (by decide) ?_
      refine lv_goto (tgt := 52) hx hb dX2_leads_29 (by decide) ?_
      obtain rfl := Option.some.inj h
      exact m_zret hx hb hr hlk V (Or.inr rfl) (Nat.zero_le _) (Nat.zero_le _) dX2_leads_52
-- X3_giveUpTo
def f_X3_giveUpTo (N : Nat) (σ : mSt) (a0 : Nat) (a1 : Int32) : Option (Int32 × mSt) := if a0 < 32 then some (mMin a1 ((σ 19 a0) - 1), (mUp σ 19 a0 ((σ 19 a0) - (mMin a1 ((σ 19 a0) - 1))))) else none
set_option maxHeartbeats 4000000 in
set_option maxRecDepth 100000 in
theorem c_X3_giveUpTo {l : Launch} {D : va_G} {y : Nat → ClassId} {ad : Nat → Nat} {N : Nat} {σ : mSt} {a0 : Nat} {a1 : Int32} {q : Int32 × mSt} (hstk : l.stackTraces = false) (h : f_X3_giveUpTo N σ a0 a1 = some q) : mC l yX3_giveUpTo wsX3_giveUpTo { frames := 1, cells := 0, slots := 0, locals := 13 } D y 80 ad mZ (mS y ad σ) [.ref (ad (48 + a0)), .int a1] (some (.int q.1)) (mS y ad q.2) 0 0 := by
  refine m_start (cc := cX3_giveUpTo) (maxL := 3) (ret := (some .int)) (by decide) rfl (Nat.le_of_ble_eq_true rfl) (fun p e s m args below meth c ls hB _ V Z hl => ?_)
  obtain ⟨hx, hb, hml, hown, hts, hr, hlk⟩ := id hB
  have hl : lv_has ls 3 [(0, .ref (ad (48 + a0))), (1, .int a1)] := hl
  rw [f_X3_giveUpTo] at h
  obtain ⟨hg2, h⟩ := gd_s h
  refine lv_iload_n hx hb dX3_giveUpTo_0 rfl (lv_at hl 1 rfl) ?_
  refine lv_aload_n hx hb dX3_giveUpTo_1 rfl (lv_at hl 0 rfl) ?_
  refine gS_S hx hb hts hown (fun _ h => List.mem_cons_of_mem _ (List.mem_append_right _ h)) V hg2 1 19 (by decide) rfl (hts _ (List.mem_of_getElem? (i := 1) rfl)) dX3_giveUpTo_2 ?_
  refine lv_iconst (v := 1) hx hb dX3_giveUpTo_5 (by decide) ?_
  refine lv_isub hx hb dX3_giveUpTo_6 ?_
  refine m_min hx hb hml hl.1 hown (hts _ (List.mem_of_getElem? (i := 2) rfl)) (hts _ (List.mem_of_getElem? (i := 3) rfl)) (hts _ (List.mem_of_getElem? (i := 4) rfl)) (hts _ (List.mem_of_getElem? (i := 5) rfl)) (Nat.le_of_ble_eq_true rfl) (Nat.le_of_ble_eq_true rfl) (Nat.zero_le _) (Nat.zero_le _) dX3_giveUpTo_7 ?_
  refine lv_istore_n (lv' := [(2, .int (mMin a1 ((σ 19 a0) - 1))), (0, .ref (ad (48 + a0))), (1, .int a1)]) hx hb dX3_giveUpTo_10 rfl hl (by decide) rfl (fun ls hl => ?_)
  refine lv_aload_n hx hb dX3_giveUpTo_11 rfl (lv_at hl 1 rfl) ?_
  refine lv_dup hx hb dX3_giveUpTo_12 rfl ?_
  refine gS_S hx hb hts hown (fun _ h => List.mem_cons_of_mem _ (List.mem_append_right _ h)) V hg2 1 19 (by decide) rfl (hts _ (List.mem_of_getElem? (i := 1) rfl)) dX3_giveUpTo_13 ?_
  refine lv_iload_n hx hb dX3_giveUpTo_16 rfl (lv_at hl 0 rfl) ?_
  refine lv_isub hx hb dX3_giveUpTo_17 ?_
  refine pS_S hx hb hts hown (fun _ h => List.mem_cons_of_mem _ (List.mem_append_right _ h)) V hg2 1 19 (by decide) rfl (hts _ (List.mem_of_getElem? (i := 1) rfl)) dX3_giveUpTo_18 (fun H locs V => ?_)
  refine lv_iload_n hx hb dX3_giveUpTo_21 rfl (lv_at hl 0 rfl) ?_
  obtain rfl := Option.some.inj h
  exact m_iret hx hb hr hlk V (Nat.zero_le _) (Nat.zero_le _) dX3_giveUpTo_22
-- X3_giveTo
def f_X3_giveTo (N : Nat) (σ : mSt) (a0 : Nat) (a1 : Nat) (a2 : Int32) : Option (Int32 × mSt) := if a0 < 32 then if a1 < 32 then (f_X3_giveUpTo N σ a0 a2).bind fun q6 => some (q6.1, (mUp q6.2 19 a1 ((q6.2 19 a1) + q6.1))) else none else none
set_option maxHeartbeats 4000000 in
set_option maxRecDepth 100000 in
theorem c_X3_giveTo {l : Launch} {D : va_G} {y : Nat → ClassId} {ad : Nat → Nat} {N : Nat} {σ : mSt} {a0 : Nat} {a1 : Nat} {a2 : Int32} {q : Int32 × mSt} (hstk : l.stackTraces = false) (h : f_X3_giveTo N σ a0 a1 a2 = some q) : mC l yX3_giveTo wsX3_giveTo { frames := 2, cells := 0, slots := 0, locals := 35 } D y 80 ad mZ (mS y ad σ) [.ref (ad (48 + a0)), .ref (ad (48 + a1)), .int a2] (some (.int q.1)) (mS y ad q.2) 0 0 := by
  refine m_start (cc := cX3_giveTo) (maxL := 4) (ret := (some .int)) (by decide) rfl (Nat.le_of_ble_eq_true rfl) (fun p e s m args below meth c ls hB _ V Z hl => ?_)
  obtain ⟨hx, hb, hml, hown, hts, hr, hlk⟩ := id hB
  have hl : lv_has ls 4 [(0, .ref (ad (48 + a0))), (1, .ref (ad (48 + a1))), (2, .int a2)] := hl
  rw [f_X3_giveTo] at h
  obtain ⟨hg4, h⟩ := gd_s h
  obtain ⟨hg5, h⟩ := gd_s h
  refine lv_aload_n hx hb dX3_giveTo_0 rfl (lv_at hl 0 rfl) ?_
  refine lv_iload_n hx hb dX3_giveTo_1 rfl (lv_at hl 2 rfl) ?_
  obtain ⟨q6, hq6, h⟩ := bd_s h
  refine kSS (As := [.int a2]) (rest := []) ⟨hx, hb, hml, hown, hts⟩ Z V (c_X3_giveUpTo (l := l) (D := D) (y := y) (ad := ad) hstk hq6) (cwV 1 hts gX3_giveTo_X3_giveUpTo rfl rfl rfl (by decide +kernel) ⟨Nat.le_of_ble_eq_true rfl, Nat.le_of_ble_eq_true rfl⟩) (by omega) (mS_S y ad _ hg4) rfl rfl hl.1 rfl (Nat.le_of_ble_eq_true rfl) ⟨Nat.zero_le _, Nat.zero_le _⟩ rfl dX3_giveTo_2 (fun H locs V => ?_)
  refine lv_istore_n (lv' := [(3, .int q6.1), (0, .ref (ad (48 + a0))), (1, .ref (ad (48 + a1))), (2, .int a2)]) hx hb dX3_giveTo_5 rfl hl (by decide) rfl (fun ls hl => ?_)
  refine lv_aload_n hx hb dX3_giveTo_6 rfl (lv_at hl 2 rfl) ?_
  refine lv_dup hx hb dX3_giveTo_7 rfl ?_
  refine gS_S hx hb hts hown (fun _ h => List.mem_cons_of_mem _ (List.mem_append_right _ h)) V hg5 1 19 (by decide) rfl (hts _ (List.mem_of_getElem? (i := 1) rfl)) dX3_giveTo_8 ?_
  refine lv_iload_n hx hb dX3_giveTo_11 rfl (lv_at hl 0 rfl) ?_
  refine lv_iadd hx hb dX3_giveTo_12 ?_
  refine pS_S hx hb hts hown (fun _ h => List.mem_cons_of_mem _ (List.mem_append_right _ h)) V hg5 1 19 (by decide) rfl (hts _ (List.mem_of_getElem? (i := 1) rfl)) dX3_giveTo_13 (fun H locs V => ?_)
  refine lv_iload_n hx hb dX3_giveTo_16 rfl (lv_at hl 0 rfl) ?_
  obtain rfl := Option.some.inj h
  exact m_iret hx hb hr hlk V (Nat.zero_le _) (Nat.zero_le _) dX3_giveTo_17
