/-! ===== constructors, laid by program (wip/whole/mkinit.py) ===== -/
theorem one_c {P : Nat → Prop} (h : P 0) : ∀ c, c < 1 → P c := fun c hc => by
  have : c = 0 := by omega
  subst this
  exact h
theorem if_same {E : Nat → va_E} {o n : Nat} {x : va_E} (hx : x = E o) : ∀ c, c < n → (if c = o then x else E c) = E c := fun c _ => by
  by_cases h : c = o
  · rw [if_pos h, hx, h]
  · rw [if_neg h]
abbrev iP : va_E := .inr (2, [.int 0, .int 0, .int 0, .int 0, .int 0])
abbrev iL0 : va_E := .inr (1, [.int 0, .int 0, .int 0, .int 0, .int 0])
abbrev iL : va_E := .inr (1, [.int 0, .int 0, .int 0, .int 0, .int (-1)])
abbrev iS : va_E := .inr (3, [.int 0, .int 0, .int 0])
abbrev iG0 : va_E := .inr (0, [.null, .null, .int 0, .int 0, .int 0, .int 0, .int 0, .int 0, .int 0, .int 0])
abbrev iG (a b : Nat) : va_E := .inr (0, [.ref a, .ref b, .int 0, .int 0, .int 0, .int 0, .int 0, .int 0, .int 0, .int (-1)])
abbrev iT (u v x : Value) (r f g : Int32) : va_E := .inr (4, [u, v, x, .int 0, .int 0, .int 0, .int 0, .int r, .int 0, .int 0, .int 0, .int 0, .int f, .int g])
set_option maxHeartbeats 4000000 in
set_option maxRecDepth 100000 in
theorem c_X2_init {l : Launch} {D : va_G} {y : Nat → ClassId} {X : (Nat → Prop) → State → Prop} {h0 : Nat} {E0 : va_E} : mC l yX2_init wsX2_init { frames := 1, cells := 0, slots := 0, locals := 12 } D y 1 (fun _ => h0) X (fun _ => E0) [.ref h0] none (fun _ => E0) 0 0 := by
  refine m_start (cc := cX2_init) (maxL := 1) (ret := none) (by decide) rfl (Nat.le_of_ble_eq_true rfl) (fun p e s m args below meth c ls hB _ V Z hl => ?_)
  obtain ⟨hx, hb, hml, hown, hts, hr, hlk⟩ := id hB
  have hl : lv_has ls 1 [(0, .ref h0)] := hl
  refine lv_aload_n hx hb dX2_init_0 rfl (lv_at hl 0 rfl) ?_
  refine m_obj hx hb hml hl.1 hown (hts _ (List.mem_of_getElem? (i := 1) rfl)) (hts _ (List.mem_of_getElem? (i := 2) rfl)) (hts _ (List.mem_of_getElem? (i := 3) rfl)) (Nat.le_of_ble_eq_true rfl) (Nat.le_of_ble_eq_true rfl) dX2_init_1 ?_
  exact m_vret hx hb hr hlk V (Nat.zero_le _) (Nat.zero_le _) dX2_init_4
set_option maxHeartbeats 4000000 in
set_option maxRecDepth 100000 in
theorem c_X3_init {l : Launch} {D : va_G} {y : Nat → ClassId} {X : (Nat → Prop) → State → Prop} {h0 : Nat} {E0 : va_E} : mC l yX3_init wsX3_init { frames := 1, cells := 0, slots := 0, locals := 12 } D y 1 (fun _ => h0) X (fun _ => E0) [.ref h0] none (fun _ => E0) 0 0 := by
  refine m_start (cc := cX3_init) (maxL := 1) (ret := none) (by decide) rfl (Nat.le_of_ble_eq_true rfl) (fun p e s m args below meth c ls hB _ V Z hl => ?_)
  obtain ⟨hx, hb, hml, hown, hts, hr, hlk⟩ := id hB
  have hl : lv_has ls 1 [(0, .ref h0)] := hl
  refine lv_aload_n hx hb dX3_init_0 rfl (lv_at hl 0 rfl) ?_
  refine m_obj hx hb hml hl.1 hown (hts _ (List.mem_of_getElem? (i := 1) rfl)) (hts _ (List.mem_of_getElem? (i := 2) rfl)) (hts _ (List.mem_of_getElem? (i := 3) rfl)) (Nat.le_of_ble_eq_true rfl) (Nat.le_of_ble_eq_true rfl) dX3_init_1 ?_
  exact m_vret hx hb hr hlk V (Nat.zero_le _) (Nat.zero_le _) dX3_init_4
set_option maxHeartbeats 4000000 in
set_option maxRecDepth 100000 in
theorem c_X1_init {l : Launch} {D : va_G} {y : Nat → ClassId} {X : (Nat → Prop) → State → Prop} {h0 : Nat} : mC l yX1_init wsX1_init { frames := 1, cells := 0, slots := 0, locals := 12 } D y 1 (fun _ => h0) X (fun _ => iL0) [.ref h0] none (fun _ => iL) 0 0 := by
  refine m_start (cc := cX1_init) (maxL := 1) (ret := none) (by decide) rfl (Nat.le_of_ble_eq_true rfl) (fun p e s m args below meth c ls hB _ V Z hl => ?_)
  obtain ⟨hx, hb, hml, hown, hts, hr, hlk⟩ := id hB
  have hl : lv_has ls 1 [(0, .ref h0)] := hl
  refine lv_aload_n hx hb dX1_init_0 rfl (lv_at hl 0 rfl) ?_
  refine m_obj hx hb hml hl.1 hown (hts _ (List.mem_of_getElem? (i := 1) rfl)) (hts _ (List.mem_of_getElem? (i := 2) rfl)) (hts _ (List.mem_of_getElem? (i := 3) rfl)) (Nat.le_of_ble_eq_true rfl) (Nat.le_of_ble_eq_true rfl) dX1_init_1 ?_
  refine lv_aload_n hx hb dX1_init_4 rfl (lv_at hl 0 rfl) ?_
  refine lv_iconst (v := -1) hx hb dX1_init_5 (by decide) ?_
  refine m_putl (ad := fun _ => h0) (a := 0) hx hb hts hown V (fun _ h => List.mem_cons_of_mem _ (List.mem_append_right _ h)) tyX1 tyX1_ok nmX1 (by omega) rfl rfl 4 (by decide) (Nat.le_of_ble_eq_true rfl) rfl (hts _ (List.mem_of_getElem? (i := 4) rfl)) rfl (by decide +kernel) rfl (E' := fun _ => iL) (one_c rfl) dX1_init_6 (fun H locs V => ?_)
  exact m_vret hx hb hr hlk V (Nat.zero_le _) (Nat.zero_le _) dX1_init_9
/-- a game and its sides, new -/
def mGE (ad : Nat → Nat) (c : Nat) : va_E := if c = 0 then iG (ad 1) (ad 2) else iS
set_option maxHeartbeats 4000000 in
set_option maxRecDepth 100000 in
theorem c_X0_init {l : Launch} {D : va_G} {y : Nat → ClassId} {h0 : Nat} {E0 : va_E} (hE0 : E0 = iG0) : mCN l yX0_init wsX0_init { frames := 2, cells := 2, slots := 6, locals := 32 } D y mXc h0 E0 3 mGE 2 6 := by
  subst hE0
  refine m_startN (cc := cX0_init) (maxL := 1) (ret := none) (by decide) rfl (Nat.le_of_ble_eq_true rfl) (fun p e s m args below meth c ls hB hnm9 V Z hl => ?_)
  obtain ⟨hx, hb, hml, hown, hts, hr, hlk⟩ := id hB
  have hl : lv_has ls 1 [(0, .ref h0)] := hl
  refine lv_aload_n hx hb dX0_init_0 rfl (lv_at hl 0 rfl) ?_
  refine m_obj hx hb hml hl.1 hown (hts _ (List.mem_of_getElem? (i := 1) rfl)) (hts _ (List.mem_of_getElem? (i := 2) rfl)) (hts _ (List.mem_of_getElem? (i := 3) rfl)) (Nat.le_of_ble_eq_true rfl) (Nat.le_of_ble_eq_true rfl) dX0_init_1 ?_
  refine lv_aload_n hx hb dX0_init_4 rfl (lv_at hl 0 rfl) ?_
  refine m_new (ci := 3) (fs := [.int 0, .int 0, .int 0]) hx hb hts (fun _ h => List.mem_cons_of_mem _ (List.mem_append_left _ (List.mem_append_right _ h))) tyX3 tyX3_ok hown (hts _ (List.mem_of_getElem? (i := 4) rfl)) (hts _ (List.mem_of_getElem? (i := 5) rfl)) (hts _ (List.mem_of_getElem? (i := 6) rfl)) V rfl (by decide +kernel) (Nat.le_of_ble_eq_true rfl) (Nat.le_of_ble_eq_true rfl) dX0_init_5 (fun q1 H V => ?_)
  refine lv_dup hx hb dX0_init_8 rfl ?_
  refine m_callIN (o := 1) ⟨hx, hb, hml, hown, hts⟩ (c_X3_init (E0 := va_up _ 1 iS 1)) (va_up_self _ _ _).symm ⟨va_cnB 0 hts ggX0_init_X3_init rfl rfl rfl (Z.1 _ (List.mem_of_getElem? (i := 0) rfl)) (hts _ (List.mem_of_getElem? (i := 6) rfl)) (by decide +kernel) ⟨Nat.le_of_ble_eq_true rfl, Nat.le_of_ble_eq_true rfl⟩, rfl, (hts _ (List.mem_of_getElem? (i := 10) rfl))⟩ mXc_ok V (by omega) (if_same rfl) (fun U hU hW => mXc_at Z hW) hl.1 (Nat.le_of_ble_eq_true rfl) ⟨Nat.le_of_ble_eq_true rfl, Nat.le_of_ble_eq_true rfl⟩ dX0_init_9 (fun H locs V => ?_)
  refine m_putF (ty := .object "MinuteBank$Side") (a := 0) (E' := fun c => if c = 0 then .inr (0, [.ref q1, .null, .int 0, .int 0, .int 0, .int 0, .int 0, .int 0, .int 0, .int 0]) else iS) hx hb hts hown hnm9 V (fun _ h => List.mem_cons_of_mem _ (List.mem_append_right _ h)) tyX0 tyX0_ok nmX0 (by omega) rfl rfl 0 (by decide) (Nat.le_of_ble_eq_true rfl) rfl rfl (hts _ (List.mem_of_getElem? (i := 7) rfl)) rfl (by decide +kernel) rfl rfl rfl (fun c' hc' => match c', hc' with
    | 0, _ => rfl
    | 1, _ => rfl
    | c' + 2, h => absurd h (by omega)) rfl dX0_init_12 (fun H locs V => ?_)
  refine lv_aload_n hx hb dX0_init_15 rfl (lv_at hl 0 rfl) ?_
  refine m_new (ci := 3) (fs := [.int 0, .int 0, .int 0]) hx hb hts (fun _ h => List.mem_cons_of_mem _ (List.mem_append_left _ (List.mem_append_right _ h))) tyX3 tyX3_ok hown (hts _ (List.mem_of_getElem? (i := 4) rfl)) (hts _ (List.mem_of_getElem? (i := 5) rfl)) (hts _ (List.mem_of_getElem? (i := 6) rfl)) V rfl (by decide +kernel) (Nat.le_of_ble_eq_true rfl) (Nat.le_of_ble_eq_true rfl) dX0_init_16 (fun q2 H V => ?_)
  refine lv_dup hx hb dX0_init_19 rfl ?_
  refine m_callIN (o := 2) ⟨hx, hb, hml, hown, hts⟩ (c_X3_init (E0 := va_up _ 2 iS 2)) (va_up_self _ _ _).symm ⟨va_cnB 0 hts ggX0_init_X3_init rfl rfl rfl (Z.1 _ (List.mem_of_getElem? (i := 0) rfl)) (hts _ (List.mem_of_getElem? (i := 6) rfl)) (by decide +kernel) ⟨Nat.le_of_ble_eq_true rfl, Nat.le_of_ble_eq_true rfl⟩, rfl, (hts _ (List.mem_of_getElem? (i := 10) rfl))⟩ mXc_ok V (by omega) (if_same rfl) (fun U hU hW => mXc_at Z hW) hl.1 (Nat.le_of_ble_eq_true rfl) ⟨Nat.le_of_ble_eq_true rfl, Nat.le_of_ble_eq_true rfl⟩ dX0_init_20 (fun H locs V => ?_)
  refine m_putF (ty := .object "MinuteBank$Side") (a := 0) (E' := fun c => if c = 0 then .inr (0, [.ref q1, .ref q2, .int 0, .int 0, .int 0, .int 0, .int 0, .int 0, .int 0, .int 0]) else iS) hx hb hts hown hnm9 V (fun _ h => List.mem_cons_of_mem _ (List.mem_append_right _ h)) tyX0 tyX0_ok nmX0 (by omega) rfl rfl 1 (by decide) (Nat.le_of_ble_eq_true rfl) rfl rfl (hts _ (List.mem_of_getElem? (i := 8) rfl)) rfl (by decide +kernel) rfl rfl rfl (fun c' hc' => match c', hc' with
    | 0, _ => rfl
    | 1, _ => rfl
    | 2, _ => rfl
    | c' + 3, h => absurd h (by omega)) rfl dX0_init_23 (fun H locs V => ?_)
  refine lv_aload_n hx hb dX0_init_26 rfl (lv_at hl 0 rfl) ?_
  refine lv_iconst (v := -1) hx hb dX0_init_27 (by decide) ?_
  refine m_putl (a := 0) (E' := fun c => if c = 0 then iG q1 q2 else iS) hx hb hts hown V (fun _ h => List.mem_cons_of_mem _ (List.mem_append_right _ h)) tyX0 tyX0_ok nmX0 (by omega) rfl rfl 9 (by decide) (Nat.le_of_ble_eq_true rfl) rfl (hts _ (List.mem_of_getElem? (i := 9) rfl)) rfl (by decide +kernel) rfl (fun c' hc' => match c', hc' with
    | 0, _ => rfl
    | 1, _ => rfl
    | 2, _ => rfl
    | c' + 3, h => absurd h (by omega)) dX0_init_28 (fun H locs V => ?_)
  exact m_vretN (n' := 3) (E' := mGE) (sz' := 0) hx hb hr hlk V rfl (Nat.le_of_ble_eq_true rfl) (Nat.le_of_ble_eq_true rfl) dX0_init_31
