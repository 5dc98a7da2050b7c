theorem dX8_init_0 : decode cX8_init 0 = .ok (.aload_n 0, 1) := by decide +kernel
theorem dX8_init_1 : decode cX8_init 1 = .ok (.invokespecial 3, 3) := by decide +kernel
theorem dX8_init_4 : decode cX8_init 4 = .ok (.aload_n 0, 1) := by decide +kernel
theorem dX8_init_5 : decode cX8_init 5 = .ok (.iconst 4, 1) := by decide +kernel
theorem dX8_init_6 : decode cX8_init 6 = .ok (.bipush 60, 2) := by decide +kernel
theorem dX8_init_8 : decode cX8_init 8 = .ok (.multianewarray 11 2, 4) := by decide +kernel
theorem dX8_init_12 : decode cX8_init 12 = .ok (.putfield 13, 3) := by decide +kernel
theorem dX8_init_15 : decode cX8_init 15 = .ok (.aload_n 0, 1) := by decide +kernel
theorem dX8_init_16 : decode cX8_init 16 = .ok (.iconst 4, 1) := by decide +kernel
theorem dX8_init_17 : decode cX8_init 17 = .ok (.newarray .int, 2) := by decide +kernel
theorem dX8_init_19 : decode cX8_init 19 = .ok (.putfield 16, 3) := by decide +kernel
theorem dX8_init_22 : decode cX8_init 22 = .ok (.aload_n 0, 1) := by decide +kernel
theorem dX8_init_23 : decode cX8_init 23 = .ok (.iconst 4, 1) := by decide +kernel
theorem dX8_init_24 : decode cX8_init 24 = .ok (.newarray .int, 2) := by decide +kernel
theorem dX8_init_26 : decode cX8_init 26 = .ok (.putfield 20, 3) := by decide +kernel
theorem dX8_init_29 : decode cX8_init 29 = .ok (.aload_n 0, 1) := by decide +kernel
theorem dX8_init_30 : decode cX8_init 30 = .ok (.getfield 20, 3) := by decide +kernel
theorem dX8_init_33 : decode cX8_init 33 = .ok (.iconst (-1), 1) := by decide +kernel
theorem dX8_init_34 : decode cX8_init 34 = .ok (.invokestatic 23, 3) := by decide +kernel
theorem dX8_init_37 : decode cX8_init 37 = .ok (.return_, 1) := by decide +kernel
def w_c_X8_init : List Cond := .code yX8_init cX8_init 1 none :: ([.methodLink RX8 3 objectInit, .instanceMethod objectInit, .code objectInit ⟨#[0xb1]⟩ 1 none, .classLink RX8 11 "[[J", .arrayClass .long, .fieldLink RX8 13 "OnePassport$Slots" "numbers" "[[J", .arrayClass .int, .fieldLink RX8 16 "OnePassport$Slots" "width" "[I", .fieldLink RX8 20 "OnePassport$Slots" "size" "[I", .methodLink RX8 23 yJ7_fill_53178, .static yJ7_fill_53178, .initialized RJ7, .code yJ7_fill_53178 cJ7_fill_53178 4 none] ++ wsX80)
theorem i_c_X8_init_X8 : ∀ w ∈ wsX80, w ∈ w_c_X8_init := fun _ h => List.mem_cons_of_mem _ (List.mem_append_right _ h)
set_option maxRecDepth 100000 in
theorem g_c_X8_init_0 : GoodIn w_c_X8_init (va_wsS RX8 23 yJ7_fill_53178 w_c_fillI) := goodIn_of _ (by decide +kernel)
set_option maxHeartbeats 4000000 in
set_option maxRecDepth 100000 in
theorem c_X8_init (l : Launch) (dC : Nat → ClassId) (dI : Nat → Nat → Nat) (cI : ClassId) (cJ : ClassId) (cK : ClassId) (h0 : Nat) (sz : Nat) : Met l yX8_init w_c_X8_init ({ frames := 1, cells := 7, slots := 252, locals := 23 }) (va_Pc [.ref h0] (fun U => U.heap.size = sz ∧ va_P (dC, dI) vwCl [(h0, .inr (8, [.null, .null, .null]))] U.heap ∧ va_K (dC, dI) vwCl [(cI, .int), (cJ, .long), (cK, .array .long)] U ∧ va_D (fun _ => True) [(h0, .inr (8, [.null, .null, .null]))] ∧ va_AOA .long U)) (va_Qv (fun _ : Unit => True) (fun (_ : Unit) (t : State) => ∃ (q_1 : Nat), ∃ (q_2 : Nat), ∃ (q_3 : Nat), ∃ (q_4 : Nat), ∃ (q_5 : Nat), ∃ (q_6 : Nat), ∃ (q_7 : Nat), va_P (dC, dI) vwCl [(h0, .inr (8, [.ref q_1, .ref q_6, .ref q_7])), (q_1, .inl (cK, 4, .inr (.inr (.inr (.inr (fun i => if i = 0 then some q_2 else if i = 1 then some q_3 else if i = 2 then some q_4 else if i = 3 then some q_5 else none)))))), (q_2, .inl (cJ, 60, .inr (.inl (fun _ => 0)))), (q_3, .inl (cJ, 60, .inr (.inl (fun _ => 0)))), (q_4, .inl (cJ, 60, .inr (.inl (fun _ => 0)))), (q_5, .inl (cJ, 60, .inr (.inl (fun _ => 0)))), (q_6, .inl (cI, 4, .inl (fun _ => 0))), (q_7, .inl (cI, 4, .inl (fun _ => (-1))))] t.heap ∧ va_K (dC, dI) vwCl [(cI, .int), (cJ, .long), (cK, .array .long)] t ∧ va_D (va_A [(h0, .inr (8, [.null, .null, .null]))] sz) [(h0, .inr (8, [.ref q_1, .ref q_6, .ref q_7])), (q_1, .inl (cK, 4, .inr (.inr (.inr (.inr (fun i => if i = 0 then some q_2 else if i = 1 then some q_3 else if i = 2 then some q_4 else if i = 3 then some q_5 else none)))))), (q_2, .inl (cJ, 60, .inr (.inl (fun _ => 0)))), (q_3, .inl (cJ, 60, .inr (.inl (fun _ => 0)))), (q_4, .inl (cJ, 60, .inr (.inl (fun _ => 0)))), (q_5, .inl (cJ, 60, .inr (.inl (fun _ => 0)))), (q_6, .inl (cI, 4, .inl (fun _ => 0))), (q_7, .inl (cI, 4, .inl (fun _ => (-1))))]) (va_A [(h0, .inr (8, [.null, .null, .null]))] sz)) 7 252 (va_A [(h0, .inr (8, [.null, .null, .null]))] sz) := by
  refine Met.ofW (cc := cX8_init) (maxL := 1) (ret := none) (by decide) rfl ?_
  intro p e s m args below meth c s₁ B hml hv
  obtain ⟨rfl, hsz, hP, hK, hD0, hN0⟩ := hv
  have hx := B.exec
  have hb := B.bytes
  have hr := B.returns
  have hts := atoms_spec (ws := w_c_X8_init) B.pre
  have hown : s.vm.findClass RX8 = some m.cls := findClass_of_methodNamed B.named
  have hlocks := B.notSynchronized
  have hin : meth.name = "<init>" := (name_of_methodNamed B.named B.method).1
  subst hsz
  have hD := hD0.self (sz := s.heap.size)
  generalize hAe : va_A [(h0, .inr (8, [.null, .null, .null]))] s.heap.size = A at hD ⊢
  have hA : ∀ q : Nat, s.heap.size ≤ q → A q := fun q h => by rw [← hAe]; exact Or.inr h
  have hS : va_S A s.heap s.heap [] := va_S.rf
  have hP : va_P (dC, dI) vwCl [(h0, .inr (8, [.null, .null, .null]))] s.heap := hP
  have hl := lv_entry ([.ref h0]) (n := 1) (Nat.le_of_ble_eq_true rfl)
  rw [lg_entry_eq]
  generalize (lg_sl ([.ref h0]) ++ List.replicate (1 - (lg_sl ([.ref h0])).length) Slot.unset).toArray = ls at hl ⊢
  have hl : lv_has ls 1 [(0, .ref h0)] := hl
  refine lv_aload_n hx hb dX8_init_0 rfl (lv_at hl 0 rfl) ?_
  refine W.objInit hx hb hown (hts (.methodLink RX8 3 objectInit) (List.mem_of_getElem? (i := 1) rfl)) (hts (.instanceMethod objectInit) (List.mem_of_getElem? (i := 2) rfl)) (hts (.code objectInit ⟨#[0xb1]⟩ 1 none) (List.mem_of_getElem? (i := 3) rfl)) rfl (by rw [hml]; exact hl.1) rfl dX8_init_1 (Nat.le_of_ble_eq_true rfl) (Nat.le_of_ble_eq_true rfl) ?_
  refine W.eq (g2 := F0 m 4 ls []) rfl ?_
  refine lv_aload_n hx hb dX8_init_4 rfl (lv_at hl 0 rfl) ?_
  refine lv_iconst (v := 4) hx hb dX8_init_5 (by decide) ?_
  refine lv_bipush (v := 60) hx hb dX8_init_6 (by decide) ?_
  refine wx_mnaJ hx hb hown (hts (.classLink RX8 11 "[[J") (List.mem_of_getElem? (i := 4) rfl)) hN0 (hts (.arrayClass .long) (List.mem_of_getElem? (i := 5) rfl)) hK hP hD hS hA 1 2 rfl rfl (K' := 60) (by decide) (by decide) (Nat.le_of_ble_eq_true rfl) (Nat.le_of_ble_eq_true rfl) (Nat.le_of_ble_eq_true rfl) (Nat.le_of_ble_eq_true rfl) dX8_init_8 (fun q_1 q_2 q_3 q_4 q_5 H hP hD hS => ?_)
  have hP : va_P (dC, dI) vwCl [(h0, .inr (8, [.null, .null, .null])), (q_1, .inl (cK, 4, .inr (.inr (.inr (.inr (fun i => if i = 0 then some q_2 else if i = 1 then some q_3 else if i = 2 then some q_4 else if i = 3 then some q_5 else none)))))), (q_2, .inl (cJ, 60, .inr (.inl (fun _ => 0)))), (q_3, .inl (cJ, 60, .inr (.inl (fun _ => 0)))), (q_4, .inl (cJ, 60, .inr (.inl (fun _ => 0)))), (q_5, .inl (cJ, 60, .inr (.inl (fun _ => 0))))] H := hP
  have hD : va_D A [(h0, .inr (8, [.null, .null, .null])), (q_1, .inl (cK, 4, .inr (.inr (.inr (.inr (fun i => if i = 0 then some q_2 else if i = 1 then some q_3 else if i = 2 then some q_4 else if i = 3 then some q_5 else none)))))), (q_2, .inl (cJ, 60, .inr (.inl (fun _ => 0)))), (q_3, .inl (cJ, 60, .inr (.inl (fun _ => 0)))), (q_4, .inl (cJ, 60, .inr (.inl (fun _ => 0)))), (q_5, .inl (cJ, 60, .inr (.inl (fun _ => 0))))] := hD
  refine W.widen (k := 5) (n := 244) (Nat.le_of_ble_eq_true rfl) (Nat.le_of_ble_eq_true rfl) ?_
  refine va_putF (D := (dC, dI)) (ci := 8) (v := .ref q_1) (ty := (tyX8 0)) (C := RX8) (T := TX8) (N := 3) hx hb hts i_c_X8_init_X8 tyX8 tyX8_ok nmX8 hown hK hP hD hS 0 rfl rfl 0 (by decide) (hts (.fieldLink RX8 13 "OnePassport$Slots" "numbers" "[[J") (List.mem_of_getElem? (i := 6) rfl)) (fun _ h9 => h9) rfl hin rfl (by decide +kernel) rfl rfl (Nat.le_of_ble_eq_true rfl) dX8_init_12 (fun H locs hP hD hS => ?_)
  have hP : va_P (dC, dI) vwCl [(h0, .inr (8, [.ref q_1, .null, .null])), (q_1, .inl (cK, 4, .inr (.inr (.inr (.inr (fun i => if i = 0 then some q_2 else if i = 1 then some q_3 else if i = 2 then some q_4 else if i = 3 then some q_5 else none)))))), (q_2, .inl (cJ, 60, .inr (.inl (fun _ => 0)))), (q_3, .inl (cJ, 60, .inr (.inl (fun _ => 0)))), (q_4, .inl (cJ, 60, .inr (.inl (fun _ => 0)))), (q_5, .inl (cJ, 60, .inr (.inl (fun _ => 0))))] H := hP
  have hD : va_D A [(h0, .inr (8, [.ref q_1, .null, .null])), (q_1, .inl (cK, 4, .inr (.inr (.inr (.inr (fun i => if i = 0 then some q_2 else if i = 1 then some q_3 else if i = 2 then some q_4 else if i = 3 then some q_5 else none)))))), (q_2, .inl (cJ, 60, .inr (.inl (fun _ => 0)))), (q_3, .inl (cJ, 60, .inr (.inl (fun _ => 0)))), (q_4, .inl (cJ, 60, .inr (.inl (fun _ => 0)))), (q_5, .inl (cJ, 60, .inr (.inl (fun _ => 0))))] := hD
  refine lv_aload_n hx hb dX8_init_15 rfl (lv_at hl 0 rfl) ?_
  refine lv_iconst (v := 4) hx hb dX8_init_16 (by decide) ?_
  refine wx_newI hx hb (hts (.arrayClass .int) (List.mem_of_getElem? (i := 7) rfl)) hK hP hD hS hA 0 rfl (N' := 4) (by decide) (by decide) (Nat.le_of_ble_eq_true rfl) (Nat.le_of_ble_eq_true rfl) (Nat.le_of_ble_eq_true rfl) dX8_init_17 (fun q_6 H hP hD hS => ?_)
  have hP : va_P (dC, dI) vwCl [(h0, .inr (8, [.ref q_1, .null, .null])), (q_1, .inl (cK, 4, .inr (.inr (.inr (.inr (fun i => if i = 0 then some q_2 else if i = 1 then some q_3 else if i = 2 then some q_4 else if i = 3 then some q_5 else none)))))), (q_2, .inl (cJ, 60, .inr (.inl (fun _ => 0)))), (q_3, .inl (cJ, 60, .inr (.inl (fun _ => 0)))), (q_4, .inl (cJ, 60, .inr (.inl (fun _ => 0)))), (q_5, .inl (cJ, 60, .inr (.inl (fun _ => 0)))), (q_6, .inl (cI, 4, .inl (fun _ => 0)))] H := hP
  have hD : va_D A [(h0, .inr (8, [.ref q_1, .null, .null])), (q_1, .inl (cK, 4, .inr (.inr (.inr (.inr (fun i => if i = 0 then some q_2 else if i = 1 then some q_3 else if i = 2 then some q_4 else if i = 3 then some q_5 else none)))))), (q_2, .inl (cJ, 60, .inr (.inl (fun _ => 0)))), (q_3, .inl (cJ, 60, .inr (.inl (fun _ => 0)))), (q_4, .inl (cJ, 60, .inr (.inl (fun _ => 0)))), (q_5, .inl (cJ, 60, .inr (.inl (fun _ => 0)))), (q_6, .inl (cI, 4, .inl (fun _ => 0)))] := hD
  refine W.widen (k := 6) (n := 248) (Nat.le_of_ble_eq_true rfl) (Nat.le_of_ble_eq_true rfl) ?_
  refine va_putF (D := (dC, dI)) (ci := 8) (v := .ref q_6) (ty := (tyX8 1)) (C := RX8) (T := TX8) (N := 3) hx hb hts i_c_X8_init_X8 tyX8 tyX8_ok nmX8 hown hK hP hD hS 0 rfl rfl 1 (by decide) (hts (.fieldLink RX8 16 "OnePassport$Slots" "width" "[I") (List.mem_of_getElem? (i := 8) rfl)) (fun _ h9 => h9) rfl hin rfl (by decide +kernel) rfl rfl (Nat.le_of_ble_eq_true rfl) dX8_init_19 (fun H locs hP hD hS => ?_)
  have hP : va_P (dC, dI) vwCl [(h0, .inr (8, [.ref q_1, .ref q_6, .null])), (q_1, .inl (cK, 4, .inr (.inr (.inr (.inr (fun i => if i = 0 then some q_2 else if i = 1 then some q_3 else if i = 2 then some q_4 else if i = 3 then some q_5 else none)))))), (q_2, .inl (cJ, 60, .inr (.inl (fun _ => 0)))), (q_3, .inl (cJ, 60, .inr (.inl (fun _ => 0)))), (q_4, .inl (cJ, 60, .inr (.inl (fun _ => 0)))), (q_5, .inl (cJ, 60, .inr (.inl (fun _ => 0)))), (q_6, .inl (cI, 4, .inl (fun _ => 0)))] H := hP
  have hD : va_D A [(h0, .inr (8, [.ref q_1, .ref q_6, .null])), (q_1, .inl (cK, 4, .inr (.inr (.inr (.inr (fun i => if i = 0 then some q_2 else if i = 1 then some q_3 else if i = 2 then some q_4 else if i = 3 then some q_5 else none)))))), (q_2, .inl (cJ, 60, .inr (.inl (fun _ => 0)))), (q_3, .inl (cJ, 60, .inr (.inl (fun _ => 0)))), (q_4, .inl (cJ, 60, .inr (.inl (fun _ => 0)))), (q_5, .inl (cJ, 60, .inr (.inl (fun _ => 0)))), (q_6, .inl (cI, 4, .inl (fun _ => 0)))] := hD
  refine lv_aload_n hx hb dX8_init_22 rfl (lv_at hl 0 rfl) ?_
  refine lv_iconst (v := 4) hx hb dX8_init_23 (by decide) ?_
  refine wx_newI hx hb (hts (.arrayClass .int) (List.mem_of_getElem? (i := 7) rfl)) hK hP hD hS hA 0 rfl (N' := 4) (by decide) (by decide) (Nat.le_of_ble_eq_true rfl) (Nat.le_of_ble_eq_true rfl) (Nat.le_of_ble_eq_true rfl) dX8_init_24 (fun q_7 H hP hD hS => ?_)
  have hP : va_P (dC, dI) vwCl [(h0, .inr (8, [.ref q_1, .ref q_6, .null])), (q_1, .inl (cK, 4, .inr (.inr (.inr (.inr (fun i => if i = 0 then some q_2 else if i = 1 then some q_3 else if i = 2 then some q_4 else if i = 3 then some q_5 else none)))))), (q_2, .inl (cJ, 60, .inr (.inl (fun _ => 0)))), (q_3, .inl (cJ, 60, .inr (.inl (fun _ => 0)))), (q_4, .inl (cJ, 60, .inr (.inl (fun _ => 0)))), (q_5, .inl (cJ, 60, .inr (.inl (fun _ => 0)))), (q_6, .inl (cI, 4, .inl (fun _ => 0))), (q_7, .inl (cI, 4, .inl (fun _ => 0)))] H := hP
  have hD : va_D A [(h0, .inr (8, [.ref q_1, .ref q_6, .null])), (q_1, .inl (cK, 4, .inr (.inr (.inr (.inr (fun i => if i = 0 then some q_2 else if i = 1 then some q_3 else if i = 2 then some q_4 else if i = 3 then some q_5 else none)))))), (q_2, .inl (cJ, 60, .inr (.inl (fun _ => 0)))), (q_3, .inl (cJ, 60, .inr (.inl (fun _ => 0)))), (q_4, .inl (cJ, 60, .inr (.inl (fun _ => 0)))), (q_5, .inl (cJ, 60, .inr (.inl (fun _ => 0)))), (q_6, .inl (cI, 4, .inl (fun _ => 0))), (q_7, .inl (cI, 4, .inl (fun _ => 0)))] := hD
  refine W.widen (k := 7) (n := 252) (Nat.le_of_ble_eq_true rfl) (Nat.le_of_ble_eq_true rfl) ?_
  refine va_putF (D := (dC, dI)) (ci := 8) (v := .ref q_7) (ty := (tyX8 2)) (C := RX8) (T := TX8) (N := 3) hx hb hts i_c_X8_init_X8 tyX8 tyX8_ok nmX8 hown hK hP hD hS 0 rfl rfl 2 (by decide) (hts (.fieldLink RX8 20 "OnePassport$Slots" "size" "[I") (List.mem_of_getElem? (i := 9) rfl)) (fun _ h9 => h9) rfl hin rfl (by decide +kernel) rfl rfl (Nat.le_of_ble_eq_true rfl) dX8_init_26 (fun H locs hP hD hS => ?_)
  have hP : va_P (dC, dI) vwCl [(h0, .inr (8, [.ref q_1, .ref q_6, .ref q_7])), (q_1, .inl (cK, 4, .inr (.inr (.inr (.inr (fun i => if i = 0 then some q_2 else if i = 1 then some q_3 else if i = 2 then some q_4 else if i = 3 then some q_5 else none)))))), (q_2, .inl (cJ, 60, .inr (.inl (fun _ => 0)))), (q_3, .inl (cJ, 60, .inr (.inl (fun _ => 0)))), (q_4, .inl (cJ, 60, .inr (.inl (fun _ => 0)))), (q_5, .inl (cJ, 60, .inr (.inl (fun _ => 0)))), (q_6, .inl (cI, 4, .inl (fun _ => 0))), (q_7, .inl (cI, 4, .inl (fun _ => 0)))] H := hP
  have hD : va_D A [(h0, .inr (8, [.ref q_1, .ref q_6, .ref q_7])), (q_1, .inl (cK, 4, .inr (.inr (.inr (.inr (fun i => if i = 0 then some q_2 else if i = 1 then some q_3 else if i = 2 then some q_4 else if i = 3 then some q_5 else none)))))), (q_2, .inl (cJ, 60, .inr (.inl (fun _ => 0)))), (q_3, .inl (cJ, 60, .inr (.inl (fun _ => 0)))), (q_4, .inl (cJ, 60, .inr (.inl (fun _ => 0)))), (q_5, .inl (cJ, 60, .inr (.inl (fun _ => 0)))), (q_6, .inl (cI, 4, .inl (fun _ => 0))), (q_7, .inl (cI, 4, .inl (fun _ => 0)))] := hD
  refine lv_aload_n hx hb dX8_init_29 rfl (lv_at hl 0 rfl) ?_
  refine va_get (D := (dC, dI)) (ci := 8) (v := .ref q_7) (C := RX8) (T := TX8) (N := 3) hx hb hts i_c_X8_init_X8 hown hK hP 0 rfl rfl 2 (by decide) (hts (.fieldLink RX8 20 "OnePassport$Slots" "size" "[I") (List.mem_of_getElem? (i := 9) rfl)) (fun _ h9 => h9) rfl dX8_init_30 ?_
  refine lv_iconst (v := (-1)) hx hb dX8_init_33 (by decide) ?_
  have hPc := hP.sub (ws' := [(q_7, .inl (cI, 4, .inl (fun _ => 0)))]) [7] rfl
  have hDc := hD.sub (ws' := [(q_7, .inl (cI, 4, .inl (fun _ => 0)))]) [7] (by decide) rfl
  have hKc := hK.sub (tys' := [(cI, .int)]) [0] rfl
  have hFc := va_free (wc := [(q_7, .inl (cI, 4, .inl (fun _ => 0)))]) hD hS hA [7] rfl
  refine va_callv (va_runS (As := [.ref q_7, .int (-1)]) (rest := []) ⟨hx, hb, hml, hown, hts⟩ (c_fillI l dC dI cI q_7 4 (fun _ => 0) (-1) (by decide) H.size) (va_cwS 2 hts g_c_X8_init_0 rfl rfl rfl (by decide +kernel) ⟨Nat.le_of_ble_eq_true rfl, Nat.le_of_ble_eq_true rfl⟩) ⟨fun a U g mk q => by obtain ⟨q0, q1, qP, qK, qD⟩ := q; exact ⟨q0, q1, qP, va_K.moved (u := U) (U := U.calling g mk a) (Vm.Alike.refl U.vm) qK, qD⟩, fun U hU hW => ⟨rfl, by rw [hU], by rw [hU]; exact hPc, va_K.moved hW.alike hKc, hDc.weaken (fun _ _ _ _ => trivial)⟩⟩ rfl rfl hl.1 rfl (lv_room (Nat.le_of_ble_eq_true rfl)) dX8_init_34 ⟨Nat.le_of_ble_eq_true rfl, Nat.le_of_ble_eq_true rfl⟩) hS (fun q _ h => hFc q h) hFc (fun u t H1 locs ht hvm hw hB hz1 hk1 hS => ?_)
  obtain ⟨hP1, hK1, hD1⟩ := hB
  rw [ht] at hP1
  try dsimp only at hw
  obtain ⟨hP, hD⟩ := va_join (wr := [(h0, .inr (8, [.ref q_1, .ref q_6, .ref q_7])), (q_1, .inl (cK, 4, .inr (.inr (.inr (.inr (fun i => if i = 0 then some q_2 else if i = 1 then some q_3 else if i = 2 then some q_4 else if i = 3 then some q_5 else none)))))), (q_2, .inl (cJ, 60, .inr (.inl (fun _ => 0)))), (q_3, .inl (cJ, 60, .inr (.inl (fun _ => 0)))), (q_4, .inl (cJ, 60, .inr (.inl (fun _ => 0)))), (q_5, .inl (cJ, 60, .inr (.inl (fun _ => 0)))), (q_6, .inl (cI, 4, .inl (fun _ => 0)))]) (w1 := [(q_7, .inl (cI, 4, .inl (fun _ => (-1))))]) hP hD [7] [0, 1, 2, 3, 4, 5, 6] rfl rfl (by decide) (by decide) hk1 hFc hP1 hD1
  clear hPc hDc hKc hFc hk1 hP1 hK1 hD1
  generalize H1 = H at hP hS ⊢
  have hP : va_P (dC, dI) vwCl [(h0, .inr (8, [.ref q_1, .ref q_6, .ref q_7])), (q_1, .inl (cK, 4, .inr (.inr (.inr (.inr (fun i => if i = 0 then some q_2 else if i = 1 then some q_3 else if i = 2 then some q_4 else if i = 3 then some q_5 else none)))))), (q_2, .inl (cJ, 60, .inr (.inl (fun _ => 0)))), (q_3, .inl (cJ, 60, .inr (.inl (fun _ => 0)))), (q_4, .inl (cJ, 60, .inr (.inl (fun _ => 0)))), (q_5, .inl (cJ, 60, .inr (.inl (fun _ => 0)))), (q_6, .inl (cI, 4, .inl (fun _ => 0))), (q_7, .inl (cI, 4, .inl (fun _ => (-1))))] H := hP
  have hD : va_D A [(h0, .inr (8, [.ref q_1, .ref q_6, .ref q_7])), (q_1, .inl (cK, 4, .inr (.inr (.inr (.inr (fun i => if i = 0 then some q_2 else if i = 1 then some q_3 else if i = 2 then some q_4 else if i = 3 then some q_5 else none)))))), (q_2, .inl (cJ, 60, .inr (.inl (fun _ => 0)))), (q_3, .inl (cJ, 60, .inr (.inl (fun _ => 0)))), (q_4, .inl (cJ, 60, .inr (.inl (fun _ => 0)))), (q_5, .inl (cJ, 60, .inr (.inl (fun _ => 0)))), (q_6, .inl (cI, 4, .inl (fun _ => 0))), (q_7, .inl (cI, 4, .inl (fun _ => (-1))))] := hD
  have hP9 := hP.sub (ws' := [(h0, .inr (8, [.ref q_1, .ref q_6, .ref q_7])), (q_1, .inl (cK, 4, .inr (.inr (.inr (.inr (fun i => if i = 0 then some q_2 else if i = 1 then some q_3 else if i = 2 then some q_4 else if i = 3 then some q_5 else none)))))), (q_2, .inl (cJ, 60, .inr (.inl (fun _ => 0)))), (q_3, .inl (cJ, 60, .inr (.inl (fun _ => 0)))), (q_4, .inl (cJ, 60, .inr (.inl (fun _ => 0)))), (q_5, .inl (cJ, 60, .inr (.inl (fun _ => 0)))), (q_6, .inl (cI, 4, .inl (fun _ => 0))), (q_7, .inl (cI, 4, .inl (fun _ => (-1))))]) [0, 1, 2, 3, 4, 5, 6, 7] rfl
  have hD9 := hD.sub (ws' := [(h0, .inr (8, [.ref q_1, .ref q_6, .ref q_7])), (q_1, .inl (cK, 4, .inr (.inr (.inr (.inr (fun i => if i = 0 then some q_2 else if i = 1 then some q_3 else if i = 2 then some q_4 else if i = 3 then some q_5 else none)))))), (q_2, .inl (cJ, 60, .inr (.inl (fun _ => 0)))), (q_3, .inl (cJ, 60, .inr (.inl (fun _ => 0)))), (q_4, .inl (cJ, 60, .inr (.inl (fun _ => 0)))), (q_5, .inl (cJ, 60, .inr (.inl (fun _ => 0)))), (q_6, .inl (cI, 4, .inl (fun _ => 0))), (q_7, .inl (cI, 4, .inl (fun _ => (-1))))]) [0, 1, 2, 3, 4, 5, 6, 7] (by decide) rfl
  exact W.vret hx hb hr (fun t ht hW => ⟨⟨(), rfl, trivial, q_1, q_2, q_3, q_4, q_5, q_6, q_7, by rw [ht]; exact hP9, va_K.moved hW.alike hK, hD9⟩, hS.F ht⟩) hS.2.2 dX8_init_37
