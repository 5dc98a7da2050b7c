theorem dX9_kindAt_0 : decode cX9_kindAt 0 = .ok (.iload_n 1, 1) := by decide +kernel
theorem dX9_kindAt_1 : decode cX9_kindAt 1 = .ok (.ifCond .lt 18, 3) := by decide +kernel
theorem dX9_kindAt_4 : decode cX9_kindAt 4 = .ok (.iload_n 1, 1) := by decide +kernel
theorem dX9_kindAt_5 : decode cX9_kindAt 5 = .ok (.aload_n 0, 1) := by decide +kernel
theorem dX9_kindAt_6 : decode cX9_kindAt 6 = .ok (.getfield 19, 3) := by decide +kernel
theorem dX9_kindAt_9 : decode cX9_kindAt 9 = .ok (.if_icmp .ge 10, 3) := by decide +kernel
theorem dX9_kindAt_19 : decode cX9_kindAt 19 = .ok (.iconst 0, 1) := by decide +kernel
theorem dX9_kindAt_20 : decode cX9_kindAt 20 = .ok (.ireturn, 1) := by decide +kernel
def w_c_X9_kindAt_0 : List Cond := .code yX9_kindAt cX9_kindAt 3 (some .int) :: ([.fieldLink RX9 19 "OnePassport$Tape" "length" "I"] ++ wsX90)
theorem i_c_X9_kindAt_0_X9 : ∀ w ∈ wsX90, w ∈ w_c_X9_kindAt_0 := fun _ h => List.mem_cons_of_mem _ (List.mem_append_right _ h)
set_option maxHeartbeats 4000000 in
set_option maxRecDepth 100000 in
theorem c_X9_kindAt_0 (l : Launch) (dC : Nat → ClassId) (dI : Nat → Nat → Nat) (h0 : Nat) (tb : Nat) (sz : Nat) : Met l yX9_kindAt w_c_X9_kindAt_0 ({ frames := 0, cells := 0, slots := 0, locals := 0 }) (va_Pc [.ref h0, .int 0] (fun U => U.heap.size = sz ∧ va_P (dC, dI) vwCl [(h0, .inr (9, [.ref tb, .int 0, .int 0, .int (-1), .int 0, .int 0, .int 0]))] U.heap ∧ va_K (dC, dI) vwCl [] U ∧ va_D (fun _ => True) [(h0, .inr (9, [.ref tb, .int 0, .int 0, .int (-1), .int 0, .int 0, .int 0]))])) (va_Qi (fun (r : Int32) (_ : Unit) => r = 0) (fun (_ : Unit) (t : State) => va_P (dC, dI) vwCl [(h0, .inr (9, [.ref tb, .int 0, .int 0, .int (-1), .int 0, .int 0, .int 0]))] t.heap ∧ va_K (dC, dI) vwCl [] t ∧ va_D (va_A [(h0, .inr (9, [.ref tb, .int 0, .int 0, .int (-1), .int 0, .int 0, .int 0]))] sz) [(h0, .inr (9, [.ref tb, .int 0, .int 0, .int (-1), .int 0, .int 0, .int 0]))]) (va_A [(h0, .inr (9, [.ref tb, .int 0, .int 0, .int (-1), .int 0, .int 0, .int 0]))] sz)) 0 0 (va_A [(h0, .inr (9, [.ref tb, .int 0, .int 0, .int (-1), .int 0, .int 0, .int 0]))] sz) := by
  refine Met.ofW (cc := cX9_kindAt) (maxL := 3) (ret := (some .int)) (by decide) rfl ?_
  intro p e s m args below meth c s₁ B hml hv
  obtain ⟨rfl, hsz, hP, hK, hD0⟩ := hv
  have hx := B.exec
  have hb := B.bytes
  have hr := B.returns
  have hts := atoms_spec (ws := w_c_X9_kindAt_0) B.pre
  have hown : s.vm.findClass RX9 = some m.cls := findClass_of_methodNamed B.named
  have hlocks := B.notSynchronized
  subst hsz
  have hD := hD0.self (sz := s.heap.size)
  generalize hAe : va_A [(h0, .inr (9, [.ref tb, .int 0, .int 0, .int (-1), .int 0, .int 0, .int 0]))] s.heap.size = A at hD ⊢
  have hA : ∀ q : Nat, s.heap.size ≤ q → A q := fun q h => by rw [← hAe]; exact Or.inr h
  have hS : va_S A s.heap s.heap [] := va_S.rf
  have hP : va_P (dC, dI) vwCl [(h0, .inr (9, [.ref tb, .int 0, .int 0, .int (-1), .int 0, .int 0, .int 0]))] s.heap := hP
  have hl := lv_entry ([.ref h0, .int 0]) (n := 3) (Nat.le_of_ble_eq_true rfl)
  rw [lg_entry_eq]
  generalize (lg_sl ([.ref h0, .int 0]) ++ List.replicate (3 - (lg_sl ([.ref h0, .int 0])).length) Slot.unset).toArray = ls at hl ⊢
  have hl : lv_has ls 3 [(0, .ref h0), (1, .int 0)] := hl
  refine lv_iload_n hx hb dX9_kindAt_0 rfl (lv_at hl 1 rfl) ?_
  refine lv_if_lt (tgt := 19) hx hb dX9_kindAt_1 (by decide) (fun c_1 => absurd c_1 (by decide)) (fun c_1 => ?_)
  refine lv_iload_n hx hb dX9_kindAt_4 rfl (lv_at hl 1 rfl) ?_
  refine lv_aload_n hx hb dX9_kindAt_5 rfl (lv_at hl 0 rfl) ?_
  refine va_get (D := (dC, dI)) (ci := 9) (v := .int 0) (C := RX9) (T := TX9) (N := 7) hx hb hts i_c_X9_kindAt_0_X9 hown hK hP 0 rfl rfl 1 (by decide) (hts (.fieldLink RX9 19 "OnePassport$Tape" "length" "I") (List.mem_of_getElem? (i := 1) rfl)) (fun _ h9 => h9) rfl dX9_kindAt_6 ?_
  refine lv_icmp_ge (tgt := 19) hx hb dX9_kindAt_9 (by decide) (fun c_2 => ?_) (fun c_2 => absurd (by decide) c_2)
  refine lv_iconst (v := 0) hx hb dX9_kindAt_19 (by decide) ?_
  have hP9 := hP.sub (ws' := [(h0, .inr (9, [.ref tb, .int 0, .int 0, .int (-1), .int 0, .int 0, .int 0]))]) [0] rfl
  have hD9 := hD.sub (ws' := [(h0, .inr (9, [.ref tb, .int 0, .int 0, .int (-1), .int 0, .int 0, .int 0]))]) [0] (by decide) rfl
  exact W.iret (v := 0) hx hb hr (fun t ht hW => ⟨⟨0, (), rfl, rfl, by rw [ht]; exact hP9, va_K.moved hW.alike hK, hD9⟩, hS.F ht⟩) hS.2.2 dX9_kindAt_20

theorem dX9_step_0 : decode cX9_step 0 = .ok (.aload_n 0, 1) := by decide +kernel
theorem dX9_step_1 : decode cX9_step 1 = .ok (.aload_n 0, 1) := by decide +kernel
theorem dX9_step_2 : decode cX9_step 2 = .ok (.getfield 25, 3) := by decide +kernel
theorem dX9_step_5 : decode cX9_step 5 = .ok (.putfield 124, 3) := by decide +kernel
theorem dX9_step_8 : decode cX9_step 8 = .ok (.aload_n 0, 1) := by decide +kernel
theorem dX9_step_9 : decode cX9_step 9 = .ok (.getfield 124, 3) := by decide +kernel
theorem dX9_step_12 : decode cX9_step 12 = .ok (.aload_n 0, 1) := by decide +kernel
theorem dX9_step_13 : decode cX9_step 13 = .ok (.getfield 19, 3) := by decide +kernel
theorem dX9_step_16 : decode cX9_step 16 = .ok (.if_icmp .ge 28, 3) := by decide +kernel
theorem dX9_step_44 : decode cX9_step 44 = .ok (.aload_n 0, 1) := by decide +kernel
theorem dX9_step_45 : decode cX9_step 45 = .ok (.aload_n 0, 1) := by decide +kernel
theorem dX9_step_46 : decode cX9_step 46 = .ok (.getfield 124, 3) := by decide +kernel
theorem dX9_step_49 : decode cX9_step 49 = .ok (.putfield 25, 3) := by decide +kernel
theorem dX9_step_52 : decode cX9_step 52 = .ok (.aload_n 0, 1) := by decide +kernel
theorem dX9_step_53 : decode cX9_step 53 = .ok (.aload_n 0, 1) := by decide +kernel
theorem dX9_step_54 : decode cX9_step 54 = .ok (.aload_n 0, 1) := by decide +kernel
theorem dX9_step_55 : decode cX9_step 55 = .ok (.getfield 124, 3) := by decide +kernel
theorem dX9_step_58 : decode cX9_step 58 = .ok (.invokevirtual 145, 3) := by decide +kernel
theorem dX9_step_61 : decode cX9_step 61 = .ok (.putfield 36, 3) := by decide +kernel
theorem dX9_step_64 : decode cX9_step 64 = .ok (.aload_n 0, 1) := by decide +kernel
theorem dX9_step_65 : decode cX9_step 65 = .ok (.getfield 36, 3) := by decide +kernel
theorem dX9_step_68 : decode cX9_step 68 = .ok (.ifCond .eq 13, 3) := by decide +kernel
theorem dX9_step_81 : decode cX9_step 81 = .ok (.aload_n 0, 1) := by decide +kernel
theorem dX9_step_82 : decode cX9_step 82 = .ok (.getfield 36, 3) := by decide +kernel
theorem dX9_step_85 : decode cX9_step 85 = .ok (.iconst 1, 1) := by decide +kernel
theorem dX9_step_86 : decode cX9_step 86 = .ok (.if_icmp .eq 11, 3) := by decide +kernel
theorem dX9_step_89 : decode cX9_step 89 = .ok (.aload_n 0, 1) := by decide +kernel
theorem dX9_step_90 : decode cX9_step 90 = .ok (.getfield 36, 3) := by decide +kernel
theorem dX9_step_93 : decode cX9_step 93 = .ok (.iconst 2, 1) := by decide +kernel
theorem dX9_step_94 : decode cX9_step 94 = .ok (.if_icmp .ne 7, 3) := by decide +kernel
theorem dX9_step_101 : decode cX9_step 101 = .ok (.iconst 0, 1) := by decide +kernel
theorem dX9_step_102 : decode cX9_step 102 = .ok (.istore_n 1, 1) := by decide +kernel
theorem dX9_step_103 : decode cX9_step 103 = .ok (.iload_n 1, 1) := by decide +kernel
theorem dX9_step_104 : decode cX9_step 104 = .ok (.ifCond .eq 42, 3) := by decide +kernel
theorem dX9_step_146 : decode cX9_step 146 = .ok (.return_, 1) := by decide +kernel
def w_c_X9_step_0 : List Cond := .code yX9_step cX9_step 2 none :: ([.fieldLink RX9 25 "OnePassport$Tape" "stop" "I", .fieldLink RX9 124 "OnePassport$Tape" "start" "I", .fieldLink RX9 19 "OnePassport$Tape" "length" "I", .methodLink RX9 145 yX9_kindAt, .instanceMethod yX9_kindAt, .selects RX9 yX9_kindAt yX9_kindAt, .initialized RX9, .code yX9_kindAt cX9_kindAt 3 (some .int), .fieldLink RX9 36 "OnePassport$Tape" "kind" "I"] ++ wsX90)
theorem i_c_X9_step_0_X9 : ∀ w ∈ wsX90, w ∈ w_c_X9_step_0 := fun _ h => List.mem_cons_of_mem _ (List.mem_append_right _ h)
set_option maxRecDepth 100000 in
theorem g_c_X9_step_0_0 : GoodIn w_c_X9_step_0 (wsV RX9 145 RX9 yX9_kindAt w_c_X9_kindAt_0) := goodIn_of _ (by decide +kernel)
set_option maxHeartbeats 4000000 in
set_option maxRecDepth 100000 in
theorem c_X9_step_0 (l : Launch) (dC : Nat → ClassId) (dI : Nat → Nat → Nat) (h0 : Nat) (tb : Nat) (sz : Nat) : Met l yX9_step w_c_X9_step_0 ({ frames := 1, cells := 0, slots := 0, locals := 22 }) (va_Pc [.ref h0] (fun U => U.heap.size = sz ∧ va_P (dC, dI) vwCl [(h0, .inr (9, [.ref tb, .int 0, .int 0, .int (-1), .int 0, .int 0, .int 0]))] U.heap ∧ va_K (dC, dI) vwCl [] U ∧ va_D (fun _ => True) [(h0, .inr (9, [.ref tb, .int 0, .int 0, .int (-1), .int 0, .int 0, .int 0]))])) (va_Qv (fun _ : Unit => True) (fun (_ : Unit) (t : State) => va_P (dC, dI) vwCl [(h0, .inr (9, [.ref tb, .int 0, .int 0, .int (-1), .int 0, .int 0, .int 0]))] t.heap ∧ va_K (dC, dI) vwCl [] t ∧ va_D (va_A [(h0, .inr (9, [.ref tb, .int 0, .int 0, .int (-1), .int 0, .int 0, .int 0]))] sz) [(h0, .inr (9, [.ref tb, .int 0, .int 0, .int (-1), .int 0, .int 0, .int 0]))]) (va_A [(h0, .inr (9, [.ref tb, .int 0, .int 0, .int (-1), .int 0, .int 0, .int 0]))] sz)) 0 0 (va_A [(h0, .inr (9, [.ref tb, .int 0, .int 0, .int (-1), .int 0, .int 0, .int 0]))] sz) := by
  refine Met.ofW (cc := cX9_step) (maxL := 2) (ret := none) (by decide) rfl ?_
  intro p e s m args below meth c s₁ B hml hv
  obtain ⟨rfl, hsz, hP, hK, hD0⟩ := hv
  have hx := B.exec
  have hb := B.bytes
  have hr := B.returns
  have hts := atoms_spec (ws := w_c_X9_step_0) B.pre
  have hown : s.vm.findClass RX9 = some m.cls := findClass_of_methodNamed B.named
  have hlocks := B.notSynchronized
  subst hsz
  have hD := hD0.self (sz := s.heap.size)
  generalize hAe : va_A [(h0, .inr (9, [.ref tb, .int 0, .int 0, .int (-1), .int 0, .int 0, .int 0]))] s.heap.size = A at hD ⊢
  have hA : ∀ q : Nat, s.heap.size ≤ q → A q := fun q h => by rw [← hAe]; exact Or.inr h
  have hS : va_S A s.heap s.heap [] := va_S.rf
  have hP : va_P (dC, dI) vwCl [(h0, .inr (9, [.ref tb, .int 0, .int 0, .int (-1), .int 0, .int 0, .int 0]))] s.heap := hP
  have hl := lv_entry ([.ref h0]) (n := 2) (Nat.le_of_ble_eq_true rfl)
  rw [lg_entry_eq]
  generalize (lg_sl ([.ref h0]) ++ List.replicate (2 - (lg_sl ([.ref h0])).length) Slot.unset).toArray = ls at hl ⊢
  have hl : lv_has ls 2 [(0, .ref h0)] := hl
  refine lv_aload_n hx hb dX9_step_0 rfl (lv_at hl 0 rfl) ?_
  refine lv_aload_n hx hb dX9_step_1 rfl (lv_at hl 0 rfl) ?_
  refine va_get (D := (dC, dI)) (ci := 9) (v := .int 0) (C := RX9) (T := TX9) (N := 7) hx hb hts i_c_X9_step_0_X9 hown hK hP 0 rfl rfl 6 (by decide) (hts (.fieldLink RX9 25 "OnePassport$Tape" "stop" "I") (List.mem_of_getElem? (i := 1) rfl)) (fun _ h9 => h9) rfl dX9_step_2 ?_
  refine va_put (D := (dC, dI)) (ci := 9) (v := .int 0) (ty := .int) (C := RX9) (T := TX9) (N := 7) hx hb hts i_c_X9_step_0_X9 tyX9 tyX9_ok nmX9 hown hK hP hD hS 0 rfl rfl 5 (by decide) (hts (.fieldLink RX9 124 "OnePassport$Tape" "start" "I") (List.mem_of_getElem? (i := 2) rfl)) (fun _ h9 => h9) rfl (by decide +kernel) rfl rfl (Nat.le_of_ble_eq_true rfl) dX9_step_5 (fun H locs hP hD hS => ?_)
  have hP : va_P (dC, dI) vwCl [(h0, .inr (9, [.ref tb, .int 0, .int 0, .int (-1), .int 0, .int 0, .int 0]))] H := hP
  have hD : va_D A [(h0, .inr (9, [.ref tb, .int 0, .int 0, .int (-1), .int 0, .int 0, .int 0]))] := hD
  refine lv_aload_n hx hb dX9_step_8 rfl (lv_at hl 0 rfl) ?_
  refine va_get (D := (dC, dI)) (ci := 9) (v := .int 0) (C := RX9) (T := TX9) (N := 7) hx hb hts i_c_X9_step_0_X9 hown hK hP 0 rfl rfl 5 (by decide) (hts (.fieldLink RX9 124 "OnePassport$Tape" "start" "I") (List.mem_of_getElem? (i := 2) rfl)) (fun _ h9 => h9) rfl dX9_step_9 ?_
  refine lv_aload_n hx hb dX9_step_12 rfl (lv_at hl 0 rfl) ?_
  refine va_get (D := (dC, dI)) (ci := 9) (v := .int 0) (C := RX9) (T := TX9) (N := 7) hx hb hts i_c_X9_step_0_X9 hown hK hP 0 rfl rfl 1 (by decide) (hts (.fieldLink RX9 19 "OnePassport$Tape" "length" "I") (List.mem_of_getElem? (i := 3) rfl)) (fun _ h9 => h9) rfl dX9_step_13 ?_
  refine lv_icmp_ge (tgt := 44) hx hb dX9_step_16 (by decide) (fun c_1 => ?_) (fun c_1 => absurd (by decide) c_1)
  refine lv_aload_n hx hb dX9_step_44 rfl (lv_at hl 0 rfl) ?_
  refine lv_aload_n hx hb dX9_step_45 rfl (lv_at hl 0 rfl) ?_
  refine va_get (D := (dC, dI)) (ci := 9) (v := .int 0) (C := RX9) (T := TX9) (N := 7) hx hb hts i_c_X9_step_0_X9 hown hK hP 0 rfl rfl 5 (by decide) (hts (.fieldLink RX9 124 "OnePassport$Tape" "start" "I") (List.mem_of_getElem? (i := 2) rfl)) (fun _ h9 => h9) rfl dX9_step_46 ?_
  refine va_put (D := (dC, dI)) (ci := 9) (v := .int 0) (ty := .int) (C := RX9) (T := TX9) (N := 7) hx hb hts i_c_X9_step_0_X9 tyX9 tyX9_ok nmX9 hown hK hP hD hS 0 rfl rfl 6 (by decide) (hts (.fieldLink RX9 25 "OnePassport$Tape" "stop" "I") (List.mem_of_getElem? (i := 1) rfl)) (fun _ h9 => h9) rfl (by decide +kernel) rfl rfl (Nat.le_of_ble_eq_true rfl) dX9_step_49 (fun H locs hP hD hS => ?_)
  have hP : va_P (dC, dI) vwCl [(h0, .inr (9, [.ref tb, .int 0, .int 0, .int (-1), .int 0, .int 0, .int 0]))] H := hP
  have hD : va_D A [(h0, .inr (9, [.ref tb, .int 0, .int 0, .int (-1), .int 0, .int 0, .int 0]))] := hD
  refine lv_aload_n hx hb dX9_step_52 rfl (lv_at hl 0 rfl) ?_
  refine lv_aload_n hx hb dX9_step_53 rfl (lv_at hl 0 rfl) ?_
  refine lv_aload_n hx hb dX9_step_54 rfl (lv_at hl 0 rfl) ?_
  refine va_get (D := (dC, dI)) (ci := 9) (v := .int 0) (C := RX9) (T := TX9) (N := 7) hx hb hts i_c_X9_step_0_X9 hown hK hP 0 rfl rfl 5 (by decide) (hts (.fieldLink RX9 124 "OnePassport$Tape" "start" "I") (List.mem_of_getElem? (i := 2) rfl)) (fun _ h9 => h9) rfl dX9_step_55 ?_
  have hPc := hP.sub (ws' := [(h0, .inr (9, [.ref tb, .int 0, .int 0, .int (-1), .int 0, .int 0, .int 0]))]) [0] rfl
  have hDc := hD.sub (ws' := [(h0, .inr (9, [.ref tb, .int 0, .int 0, .int (-1), .int 0, .int 0, .int 0]))]) [0] (by decide) rfl
  have hKc := hK.sub (tys' := []) [] rfl
  have hFc := va_free (wc := [(h0, .inr (9, [.ref tb, .int 0, .int 0, .int (-1), .int 0, .int 0, .int 0]))]) hD hS hA [0] rfl
  refine va_calli (va_runV (As := [.int 0]) (rest := [.ref h0]) ⟨hx, hb, hml, hown, hts⟩ (c_X9_kindAt_0 l dC dI h0 tb H.size) (cwV 1 hts g_c_X9_step_0_0 rfl rfl rfl (by decide +kernel) ⟨Nat.le_of_ble_eq_true rfl, Nat.le_of_ble_eq_true rfl⟩) ⟨fun a U g mk q => by obtain ⟨q0, q1, qP, qK, qD⟩ := q; exact ⟨q0, q1, qP, va_K.moved (u := U) (U := U.calling g mk a) (Vm.Alike.refl U.vm) qK, qD⟩, va_recv hKc hPc (ci := 9) (q0 := 0) rfl rfl, fun U hU hW => ⟨rfl, by rw [hU], by rw [hU]; exact hPc, va_K.moved hW.alike hKc, hDc.weaken (fun _ _ _ _ => trivial)⟩⟩ rfl rfl hl.1 rfl (lv_room (Nat.le_of_ble_eq_true rfl)) dX9_step_58 ⟨Nat.le_of_ble_eq_true rfl, Nat.le_of_ble_eq_true rfl⟩) hS (fun q _ h => hFc q h) hFc (fun r_2 u t H1 locs ht hvm hw hB hz1 hk1 hS => ?_)
  obtain ⟨hP1, hK1, hD1⟩ := hB
  rw [ht] at hP1
  try dsimp only at hw
  obtain ⟨hP, hD⟩ := va_join (wr := []) (w1 := [(h0, .inr (9, [.ref tb, .int 0, .int 0, .int (-1), .int 0, .int 0, .int 0]))]) hP hD [0] [] rfl rfl (by decide) (by decide) hk1 hFc hP1 hD1
  clear hPc hDc hKc hFc hk1 hP1 hK1 hD1
  generalize H1 = H at hP hS ⊢
  have hP : va_P (dC, dI) vwCl [(h0, .inr (9, [.ref tb, .int 0, .int 0, .int (-1), .int 0, .int 0, .int 0]))] H := hP
  have hD : va_D A [(h0, .inr (9, [.ref tb, .int 0, .int 0, .int (-1), .int 0, .int 0, .int 0]))] := hD
  have er_2 : r_2 = 0 := hw
  refine wx_ti (y := 0) er_2 ?_
  refine va_put (D := (dC, dI)) (ci := 9) (v := .int 0) (ty := .int) (C := RX9) (T := TX9) (N := 7) hx hb hts i_c_X9_step_0_X9 tyX9 tyX9_ok nmX9 hown hK hP hD hS 0 rfl rfl 4 (by decide) (hts (.fieldLink RX9 36 "OnePassport$Tape" "kind" "I") (List.mem_of_getElem? (i := 9) rfl)) (fun _ h9 => h9) rfl (by decide +kernel) rfl rfl (Nat.le_of_ble_eq_true rfl) dX9_step_61 (fun H locs hP hD hS => ?_)
  have hP : va_P (dC, dI) vwCl [(h0, .inr (9, [.ref tb, .int 0, .int 0, .int (-1), .int 0, .int 0, .int 0]))] H := hP
  have hD : va_D A [(h0, .inr (9, [.ref tb, .int 0, .int 0, .int (-1), .int 0, .int 0, .int 0]))] := hD
  refine lv_aload_n hx hb dX9_step_64 rfl (lv_at hl 0 rfl) ?_
  refine va_get (D := (dC, dI)) (ci := 9) (v := .int 0) (C := RX9) (T := TX9) (N := 7) hx hb hts i_c_X9_step_0_X9 hown hK hP 0 rfl rfl 4 (by decide) (hts (.fieldLink RX9 36 "OnePassport$Tape" "kind" "I") (List.mem_of_getElem? (i := 9) rfl)) (fun _ h9 => h9) rfl dX9_step_65 ?_
  refine lv_if_eq (tgt := 81) hx hb dX9_step_68 (by decide) (fun c_3 => ?_) (fun c_3 => absurd rfl c_3)
  refine lv_aload_n hx hb dX9_step_81 rfl (lv_at hl 0 rfl) ?_
  refine va_get (D := (dC, dI)) (ci := 9) (v := .int 0) (C := RX9) (T := TX9) (N := 7) hx hb hts i_c_X9_step_0_X9 hown hK hP 0 rfl rfl 4 (by decide) (hts (.fieldLink RX9 36 "OnePassport$Tape" "kind" "I") (List.mem_of_getElem? (i := 9) rfl)) (fun _ h9 => h9) rfl dX9_step_82 ?_
  refine lv_iconst (v := 1) hx hb dX9_step_85 (by decide) ?_
  refine lv_icmp_eq (tgt := 97) hx hb dX9_step_86 (by decide) (fun c_4 => absurd c_4 (by decide)) (fun c_4 => ?_)
  refine lv_aload_n hx hb dX9_step_89 rfl (lv_at hl 0 rfl) ?_
  refine va_get (D := (dC, dI)) (ci := 9) (v := .int 0) (C := RX9) (T := TX9) (N := 7) hx hb hts i_c_X9_step_0_X9 hown hK hP 0 rfl rfl 4 (by decide) (hts (.fieldLink RX9 36 "OnePassport$Tape" "kind" "I") (List.mem_of_getElem? (i := 9) rfl)) (fun _ h9 => h9) rfl dX9_step_90 ?_
  refine lv_iconst (v := 2) hx hb dX9_step_93 (by decide) ?_
  refine lv_icmp_ne (tgt := 101) hx hb dX9_step_94 (by decide) (fun c_5 => ?_) (fun c_5 => absurd c_5 (by decide))
  refine lv_iconst (v := 0) hx hb dX9_step_101 (by decide) ?_
  refine lv_istore_n (lv' := [(1, .int 0), (0, .ref h0)]) hx hb dX9_step_102 rfl hl (by decide) rfl (fun ls hl => ?_)
  refine lv_iload_n hx hb dX9_step_103 rfl (lv_at hl 0 rfl) ?_
  refine lv_if_eq (tgt := 146) hx hb dX9_step_104 (by decide) (fun c_6 => ?_) (fun c_6 => absurd rfl c_6)
  have hP9 := hP.sub (ws' := [(h0, .inr (9, [.ref tb, .int 0, .int 0, .int (-1), .int 0, .int 0, .int 0]))]) [0] rfl
  have hD9 := hD.sub (ws' := [(h0, .inr (9, [.ref tb, .int 0, .int 0, .int (-1), .int 0, .int 0, .int 0]))]) [0] (by decide) rfl
  exact W.vret hx hb hr (fun t ht hW => ⟨⟨(), rfl, trivial, by rw [ht]; exact hP9, va_K.moved hW.alike hK, hD9⟩, hS.F ht⟩) hS.2.2 dX9_step_146

theorem dX0_clear_0 : decode cX0_clear 0 = .ok (.aload_n 0, 1) := by decide +kernel
theorem dX0_clear_1 : decode cX0_clear 1 = .ok (.iconst 0, 1) := by decide +kernel
theorem dX0_clear_2 : decode cX0_clear 2 = .ok (.putfield 33, 3) := by decide +kernel
theorem dX0_clear_5 : decode cX0_clear 5 = .ok (.aload_n 0, 1) := by decide +kernel
theorem dX0_clear_6 : decode cX0_clear 6 = .ok (.iconst 0, 1) := by decide +kernel
theorem dX0_clear_7 : decode cX0_clear 7 = .ok (.putfield 37, 3) := by decide +kernel
theorem dX0_clear_10 : decode cX0_clear 10 = .ok (.aload_n 0, 1) := by decide +kernel
theorem dX0_clear_11 : decode cX0_clear 11 = .ok (.iconst 0, 1) := by decide +kernel
theorem dX0_clear_12 : decode cX0_clear 12 = .ok (.putfield 40, 3) := by decide +kernel
theorem dX0_clear_15 : decode cX0_clear 15 = .ok (.aload_n 0, 1) := by decide +kernel
theorem dX0_clear_16 : decode cX0_clear 16 = .ok (.iconst 0, 1) := by decide +kernel
theorem dX0_clear_17 : decode cX0_clear 17 = .ok (.putfield 43, 3) := by decide +kernel
theorem dX0_clear_20 : decode cX0_clear 20 = .ok (.aload_n 0, 1) := by decide +kernel
theorem dX0_clear_21 : decode cX0_clear 21 = .ok (.iconst 0, 1) := by decide +kernel
theorem dX0_clear_22 : decode cX0_clear 22 = .ok (.putfield 46, 3) := by decide +kernel
theorem dX0_clear_25 : decode cX0_clear 25 = .ok (.return_, 1) := by decide +kernel
def w_c_X0_clear_0 : List Cond := .code yX0_clear cX0_clear 1 none :: ([.fieldLink RX0 33 "OnePassport$Family" "lines" "I", .fieldLink RX0 37 "OnePassport$Family" "loaf" "I", .fieldLink RX0 40 "OnePassport$Family" "compare" "I", .fieldLink RX0 43 "OnePassport$Family" "persons" "I", .fieldLink RX0 46 "OnePassport$Family" "posts" "I"] ++ wsX00)
theorem i_c_X0_clear_0_X0 : ∀ w ∈ wsX00, w ∈ w_c_X0_clear_0 := fun _ h => List.mem_cons_of_mem _ (List.mem_append_right _ h)
set_option maxHeartbeats 4000000 in
set_option maxRecDepth 100000 in
theorem c_X0_clear_0 (l : Launch) (dC : Nat → ClassId) (dI : Nat → Nat → Nat) (h0 : Nat) (f5 : Nat) (f6 : Nat) (f7 : Nat) (f8 : Nat) (f9 : Nat) (f10 : Nat) (f11 : Nat) (sz : Nat) : Met l yX0_clear w_c_X0_clear_0 ({ frames := 0, cells := 0, slots := 0, locals := 0 }) (va_Pc [.ref h0] (fun U => U.heap.size = sz ∧ va_P (dC, dI) vwCl [(h0, .inr (0, [.int 0, .int 0, .int 0, .int 0, .int 0, .ref f5, .ref f6, .ref f7, .ref f8, .ref f9, .ref f10, .ref f11]))] U.heap ∧ va_K (dC, dI) vwCl [] U ∧ va_D (fun _ => True) [(h0, .inr (0, [.int 0, .int 0, .int 0, .int 0, .int 0, .ref f5, .ref f6, .ref f7, .ref f8, .ref f9, .ref f10, .ref f11]))])) (va_Qv (fun _ : Unit => True) (fun (_ : Unit) (t : State) => va_P (dC, dI) vwCl [(h0, .inr (0, [.int 0, .int 0, .int 0, .int 0, .int 0, .ref f5, .ref f6, .ref f7, .ref f8, .ref f9, .ref f10, .ref f11]))] t.heap ∧ va_K (dC, dI) vwCl [] t ∧ va_D (va_A [(h0, .inr (0, [.int 0, .int 0, .int 0, .int 0, .int 0, .ref f5, .ref f6, .ref f7, .ref f8, .ref f9, .ref f10, .ref f11]))] sz) [(h0, .inr (0, [.int 0, .int 0, .int 0, .int 0, .int 0, .ref f5, .ref f6, .ref f7, .ref f8, .ref f9, .ref f10, .ref f11]))]) (va_A [(h0, .inr (0, [.int 0, .int 0, .int 0, .int 0, .int 0, .ref f5, .ref f6, .ref f7, .ref f8, .ref f9, .ref f10, .ref f11]))] sz)) 0 0 (va_A [(h0, .inr (0, [.int 0, .int 0, .int 0, .int 0, .int 0, .ref f5, .ref f6, .ref f7, .ref f8, .ref f9, .ref f10, .ref f11]))] sz) := by
  refine Met.ofW (cc := cX0_clear) (maxL := 1) (ret := none) (by decide) rfl ?_
  intro p e s m args below meth c s₁ B hml hv
  obtain ⟨rfl, hsz, hP, hK, hD0⟩ := hv
  have hx := B.exec
  have hb := B.bytes
  have hr := B.returns
  have hts := atoms_spec (ws := w_c_X0_clear_0) B.pre
  have hown : s.vm.findClass RX0 = some m.cls := findClass_of_methodNamed B.named
  have hlocks := B.notSynchronized
  subst hsz
  have hD := hD0.self (sz := s.heap.size)
  generalize hAe : va_A [(h0, .inr (0, [.int 0, .int 0, .int 0, .int 0, .int 0, .ref f5, .ref f6, .ref f7, .ref f8, .ref f9, .ref f10, .ref f11]))] s.heap.size = A at hD ⊢
  have hA : ∀ q : Nat, s.heap.size ≤ q → A q := fun q h => by rw [← hAe]; exact Or.inr h
  have hS : va_S A s.heap s.heap [] := va_S.rf
  have hP : va_P (dC, dI) vwCl [(h0, .inr (0, [.int 0, .int 0, .int 0, .int 0, .int 0, .ref f5, .ref f6, .ref f7, .ref f8, .ref f9, .ref f10, .ref f11]))] s.heap := hP
  have hl := lv_entry ([.ref h0]) (n := 1) (Nat.le_of_ble_eq_true rfl)
  rw [lg_entry_eq]
  generalize (lg_sl ([.ref h0]) ++ List.replicate (1 - (lg_sl ([.ref h0])).length) Slot.unset).toArray = ls at hl ⊢
  have hl : lv_has ls 1 [(0, .ref h0)] := hl
  refine lv_aload_n hx hb dX0_clear_0 rfl (lv_at hl 0 rfl) ?_
  refine lv_iconst (v := 0) hx hb dX0_clear_1 (by decide) ?_
  refine va_put (D := (dC, dI)) (ci := 0) (v := .int 0) (ty := .int) (C := RX0) (T := TX0) (N := 12) hx hb hts i_c_X0_clear_0_X0 tyX0 tyX0_ok nmX0 hown hK hP hD hS 0 rfl rfl 0 (by decide) (hts (.fieldLink RX0 33 "OnePassport$Family" "lines" "I") (List.mem_of_getElem? (i := 1) rfl)) (fun _ h9 => h9) rfl (by decide +kernel) rfl rfl (Nat.le_of_ble_eq_true rfl) dX0_clear_2 (fun H locs hP hD hS => ?_)
  have hP : va_P (dC, dI) vwCl [(h0, .inr (0, [.int 0, .int 0, .int 0, .int 0, .int 0, .ref f5, .ref f6, .ref f7, .ref f8, .ref f9, .ref f10, .ref f11]))] H := hP
  have hD : va_D A [(h0, .inr (0, [.int 0, .int 0, .int 0, .int 0, .int 0, .ref f5, .ref f6, .ref f7, .ref f8, .ref f9, .ref f10, .ref f11]))] := hD
  refine lv_aload_n hx hb dX0_clear_5 rfl (lv_at hl 0 rfl) ?_
  refine lv_iconst (v := 0) hx hb dX0_clear_6 (by decide) ?_
  refine va_put (D := (dC, dI)) (ci := 0) (v := .int 0) (ty := .int) (C := RX0) (T := TX0) (N := 12) hx hb hts i_c_X0_clear_0_X0 tyX0 tyX0_ok nmX0 hown hK hP hD hS 0 rfl rfl 1 (by decide) (hts (.fieldLink RX0 37 "OnePassport$Family" "loaf" "I") (List.mem_of_getElem? (i := 2) rfl)) (fun _ h9 => h9) rfl (by decide +kernel) rfl rfl (Nat.le_of_ble_eq_true rfl) dX0_clear_7 (fun H locs hP hD hS => ?_)
  have hP : va_P (dC, dI) vwCl [(h0, .inr (0, [.int 0, .int 0, .int 0, .int 0, .int 0, .ref f5, .ref f6, .ref f7, .ref f8, .ref f9, .ref f10, .ref f11]))] H := hP
  have hD : va_D A [(h0, .inr (0, [.int 0, .int 0, .int 0, .int 0, .int 0, .ref f5, .ref f6, .ref f7, .ref f8, .ref f9, .ref f10, .ref f11]))] := hD
  refine lv_aload_n hx hb dX0_clear_10 rfl (lv_at hl 0 rfl) ?_
  refine lv_iconst (v := 0) hx hb dX0_clear_11 (by decide) ?_
  refine va_put (D := (dC, dI)) (ci := 0) (v := .int 0) (ty := .int) (C := RX0) (T := TX0) (N := 12) hx hb hts i_c_X0_clear_0_X0 tyX0 tyX0_ok nmX0 hown hK hP hD hS 0 rfl rfl 2 (by decide) (hts (.fieldLink RX0 40 "OnePassport$Family" "compare" "I") (List.mem_of_getElem? (i := 3) rfl)) (fun _ h9 => h9) rfl (by decide +kernel) rfl rfl (Nat.le_of_ble_eq_true rfl) dX0_clear_12 (fun H locs hP hD hS => ?_)
  have hP : va_P (dC, dI) vwCl [(h0, .inr (0, [.int 0, .int 0, .int 0, .int 0, .int 0, .ref f5, .ref f6, .ref f7, .ref f8, .ref f9, .ref f10, .ref f11]))] H := hP
  have hD : va_D A [(h0, .inr (0, [.int 0, .int 0, .int 0, .int 0, .int 0, .ref f5, .ref f6, .ref f7, .ref f8, .ref f9, .ref f10, .ref f11]))] := hD
  refine lv_aload_n hx hb dX0_clear_15 rfl (lv_at hl 0 rfl) ?_
  refine lv_iconst (v := 0) hx hb dX0_clear_16 (by decide) ?_
  refine va_put (D := (dC, dI)) (ci := 0) (v := .int 0) (ty := .int) (C := RX0) (T := TX0) (N := 12) hx hb hts i_c_X0_clear_0_X0 tyX0 tyX0_ok nmX0 hown hK hP hD hS 0 rfl rfl 3 (by decide) (hts (.fieldLink RX0 43 "OnePassport$Family" "persons" "I") (List.mem_of_getElem? (i := 4) rfl)) (fun _ h9 => h9) rfl (by decide +kernel) rfl rfl (Nat.le_of_ble_eq_true rfl) dX0_clear_17 (fun H locs hP hD hS => ?_)
  have hP : va_P (dC, dI) vwCl [(h0, .inr (0, [.int 0, .int 0, .int 0, .int 0, .int 0, .ref f5, .ref f6, .ref f7, .ref f8, .ref f9, .ref f10, .ref f11]))] H := hP
  have hD : va_D A [(h0, .inr (0, [.int 0, .int 0, .int 0, .int 0, .int 0, .ref f5, .ref f6, .ref f7, .ref f8, .ref f9, .ref f10, .ref f11]))] := hD
  refine lv_aload_n hx hb dX0_clear_20 rfl (lv_at hl 0 rfl) ?_
  refine lv_iconst (v := 0) hx hb dX0_clear_21 (by decide) ?_
  refine va_put (D := (dC, dI)) (ci := 0) (v := .int 0) (ty := .int) (C := RX0) (T := TX0) (N := 12) hx hb hts i_c_X0_clear_0_X0 tyX0 tyX0_ok nmX0 hown hK hP hD hS 0 rfl rfl 4 (by decide) (hts (.fieldLink RX0 46 "OnePassport$Family" "posts" "I") (List.mem_of_getElem? (i := 5) rfl)) (fun _ h9 => h9) rfl (by decide +kernel) rfl rfl (Nat.le_of_ble_eq_true rfl) dX0_clear_22 (fun H locs hP hD hS => ?_)
  have hP : va_P (dC, dI) vwCl [(h0, .inr (0, [.int 0, .int 0, .int 0, .int 0, .int 0, .ref f5, .ref f6, .ref f7, .ref f8, .ref f9, .ref f10, .ref f11]))] H := hP
  have hD : va_D A [(h0, .inr (0, [.int 0, .int 0, .int 0, .int 0, .int 0, .ref f5, .ref f6, .ref f7, .ref f8, .ref f9, .ref f10, .ref f11]))] := hD
  have hP9 := hP.sub (ws' := [(h0, .inr (0, [.int 0, .int 0, .int 0, .int 0, .int 0, .ref f5, .ref f6, .ref f7, .ref f8, .ref f9, .ref f10, .ref f11]))]) [0] rfl
  have hD9 := hD.sub (ws' := [(h0, .inr (0, [.int 0, .int 0, .int 0, .int 0, .int 0, .ref f5, .ref f6, .ref f7, .ref f8, .ref f9, .ref f10, .ref f11]))]) [0] (by decide) rfl
  exact W.vret hx hb hr (fun t ht hW => ⟨⟨(), rfl, trivial, by rw [ht]; exact hP9, va_K.moved hW.alike hK, hD9⟩, hS.F ht⟩) hS.2.2 dX0_clear_25

theorem dX9_readInto_0 : decode cX9_readInto 0 = .ok (.aload_n 0, 1) := by decide +kernel
theorem dX9_readInto_1 : decode cX9_readInto 1 = .ok (.iconst 0, 1) := by decide +kernel
theorem dX9_readInto_2 : decode cX9_readInto 2 = .ok (.putfield 22, 3) := by decide +kernel
theorem dX9_readInto_5 : decode cX9_readInto 5 = .ok (.aload_n 0, 1) := by decide +kernel
theorem dX9_readInto_6 : decode cX9_readInto 6 = .ok (.iconst (-1), 1) := by decide +kernel
theorem dX9_readInto_7 : decode cX9_readInto 7 = .ok (.putfield 15, 3) := by decide +kernel
theorem dX9_readInto_10 : decode cX9_readInto 10 = .ok (.aload_n 0, 1) := by decide +kernel
theorem dX9_readInto_11 : decode cX9_readInto 11 = .ok (.iconst 0, 1) := by decide +kernel
theorem dX9_readInto_12 : decode cX9_readInto 12 = .ok (.putfield 25, 3) := by decide +kernel
theorem dX9_readInto_15 : decode cX9_readInto 15 = .ok (.aload_n 1, 1) := by decide +kernel
theorem dX9_readInto_16 : decode cX9_readInto 16 = .ok (.invokevirtual 28, 3) := by decide +kernel
theorem dX9_readInto_19 : decode cX9_readInto 19 = .ok (.aload_n 0, 1) := by decide +kernel
theorem dX9_readInto_20 : decode cX9_readInto 20 = .ok (.invokevirtual 33, 3) := by decide +kernel
theorem dX9_readInto_23 : decode cX9_readInto 23 = .ok (.iconst 0, 1) := by decide +kernel
theorem dX9_readInto_24 : decode cX9_readInto 24 = .ok (.istore_n 2, 1) := by decide +kernel
theorem dX9_readInto_25 : decode cX9_readInto 25 = .ok (.iload_n 2, 1) := by decide +kernel
theorem dX9_readInto_26 : decode cX9_readInto 26 = .ok (.sipush 600, 3) := by decide +kernel
theorem dX9_readInto_29 : decode cX9_readInto 29 = .ok (.if_icmp .gt 28, 3) := by decide +kernel
theorem dX9_readInto_32 : decode cX9_readInto 32 = .ok (.aload_n 0, 1) := by decide +kernel
theorem dX9_readInto_33 : decode cX9_readInto 33 = .ok (.getfield 22, 3) := by decide +kernel
theorem dX9_readInto_36 : decode cX9_readInto 36 = .ok (.ifCond .ne 21, 3) := by decide +kernel
theorem dX9_readInto_39 : decode cX9_readInto 39 = .ok (.aload_n 0, 1) := by decide +kernel
theorem dX9_readInto_40 : decode cX9_readInto 40 = .ok (.getfield 36, 3) := by decide +kernel
theorem dX9_readInto_43 : decode cX9_readInto 43 = .ok (.ifCond .eq 14, 3) := by decide +kernel
theorem dX9_readInto_57 : decode cX9_readInto 57 = .ok (.return_, 1) := by decide +kernel
def w_c_X9_readInto_0 : List Cond := .code yX9_readInto cX9_readInto 3 none :: ([.fieldLink RX9 22 "OnePassport$Tape" "fault" "I", .fieldLink RX9 15 "OnePassport$Tape" "place" "I", .fieldLink RX9 25 "OnePassport$Tape" "stop" "I", .methodLink RX9 28 yX0_clear, .instanceMethod yX0_clear, .selects RX0 yX0_clear yX0_clear, .initialized RX0, .code yX0_clear cX0_clear 1 none, .fieldLink RX0 33 "OnePassport$Family" "lines" "I", .fieldLink RX0 37 "OnePassport$Family" "loaf" "I", .fieldLink RX0 40 "OnePassport$Family" "compare" "I", .fieldLink RX0 43 "OnePassport$Family" "persons" "I", .fieldLink RX0 46 "OnePassport$Family" "posts" "I", .methodLink RX9 33 yX9_step, .instanceMethod yX9_step, .selects RX9 yX9_step yX9_step, .initialized RX9, .code yX9_step cX9_step 2 none, .fieldLink RX9 124 "OnePassport$Tape" "start" "I", .fieldLink RX9 19 "OnePassport$Tape" "length" "I", .methodLink RX9 145 yX9_kindAt, .instanceMethod yX9_kindAt, .selects RX9 yX9_kindAt yX9_kindAt, .code yX9_kindAt cX9_kindAt 3 (some .int), .fieldLink RX9 36 "OnePassport$Tape" "kind" "I"] ++ wsX90 ++ wsX00)
theorem i_c_X9_readInto_0_X9 : ∀ w ∈ wsX90, w ∈ w_c_X9_readInto_0 := fun _ h => List.mem_cons_of_mem _ (List.mem_append_left _ (List.mem_append_right _ h))
theorem i_c_X9_readInto_0_X0 : ∀ w ∈ wsX00, w ∈ w_c_X9_readInto_0 := fun _ h => List.mem_cons_of_mem _ (List.mem_append_right _ h)
set_option maxRecDepth 100000 in
theorem g_c_X9_readInto_0_0 : GoodIn w_c_X9_readInto_0 (wsV RX9 28 RX0 yX0_clear w_c_X0_clear_0) := goodIn_of _ (by decide +kernel)
set_option maxRecDepth 100000 in
theorem g_c_X9_readInto_0_1 : GoodIn w_c_X9_readInto_0 (wsV RX9 33 RX9 yX9_step w_c_X9_step_0) := goodIn_of _ (by decide +kernel)
set_option maxHeartbeats 4000000 in
set_option maxRecDepth 100000 in
theorem c_X9_readInto_0 (l : Launch) (dC : Nat → ClassId) (dI : Nat → Nat → Nat) (h0 : Nat) (tb : Nat) (h1 : Nat) (f5 : Nat) (f6 : Nat) (f7 : Nat) (f8 : Nat) (f9 : Nat) (f10 : Nat) (f11 : Nat) (sz : Nat) : Met l yX9_readInto w_c_X9_readInto_0 ({ frames := 2, cells := 0, slots := 0, locals := 43 }) (va_Pc [.ref h0, .ref h1] (fun U => U.heap.size = sz ∧ va_P (dC, dI) vwCl [(h0, .inr (9, [.ref tb, .int 0, .int 0, .int (-1), .int 0, .int 0, .int 0])), (h1, .inr (0, [.int 0, .int 0, .int 0, .int 0, .int 0, .ref f5, .ref f6, .ref f7, .ref f8, .ref f9, .ref f10, .ref f11]))] U.heap ∧ va_K (dC, dI) vwCl [] U ∧ va_D (fun _ => True) [(h0, .inr (9, [.ref tb, .int 0, .int 0, .int (-1), .int 0, .int 0, .int 0])), (h1, .inr (0, [.int 0, .int 0, .int 0, .int 0, .int 0, .ref f5, .ref f6, .ref f7, .ref f8, .ref f9, .ref f10, .ref f11]))])) (va_Qv (fun _ : Unit => True) (fun (_ : Unit) (t : State) => va_P (dC, dI) vwCl [(h0, .inr (9, [.ref tb, .int 0, .int 0, .int (-1), .int 0, .int 0, .int 0])), (h1, .inr (0, [.int 0, .int 0, .int 0, .int 0, .int 0, .ref f5, .ref f6, .ref f7, .ref f8, .ref f9, .ref f10, .ref f11]))] t.heap ∧ va_K (dC, dI) vwCl [] t ∧ va_D (va_A [(h0, .inr (9, [.ref tb, .int 0, .int 0, .int (-1), .int 0, .int 0, .int 0])), (h1, .inr (0, [.int 0, .int 0, .int 0, .int 0, .int 0, .ref f5, .ref f6, .ref f7, .ref f8, .ref f9, .ref f10, .ref f11]))] sz) [(h0, .inr (9, [.ref tb, .int 0, .int 0, .int (-1), .int 0, .int 0, .int 0])), (h1, .inr (0, [.int 0, .int 0, .int 0, .int 0, .int 0, .ref f5, .ref f6, .ref f7, .ref f8, .ref f9, .ref f10, .ref f11]))]) (va_A [(h0, .inr (9, [.ref tb, .int 0, .int 0, .int (-1), .int 0, .int 0, .int 0])), (h1, .inr (0, [.int 0, .int 0, .int 0, .int 0, .int 0, .ref f5, .ref f6, .ref f7, .ref f8, .ref f9, .ref f10, .ref f11]))] sz)) 0 0 (va_A [(h0, .inr (9, [.ref tb, .int 0, .int 0, .int (-1), .int 0, .int 0, .int 0])), (h1, .inr (0, [.int 0, .int 0, .int 0, .int 0, .int 0, .ref f5, .ref f6, .ref f7, .ref f8, .ref f9, .ref f10, .ref f11]))] sz) := by
  refine Met.ofW (cc := cX9_readInto) (maxL := 3) (ret := none) (by decide) rfl ?_
  intro p e s m args below meth c s₁ B hml hv
  obtain ⟨rfl, hsz, hP, hK, hD0⟩ := hv
  have hx := B.exec
  have hb := B.bytes
  have hr := B.returns
  have hts := atoms_spec (ws := w_c_X9_readInto_0) B.pre
  have hown : s.vm.findClass RX9 = some m.cls := findClass_of_methodNamed B.named
  have hlocks := B.notSynchronized
  subst hsz
  have hD := hD0.self (sz := s.heap.size)
  generalize hAe : va_A [(h0, .inr (9, [.ref tb, .int 0, .int 0, .int (-1), .int 0, .int 0, .int 0])), (h1, .inr (0, [.int 0, .int 0, .int 0, .int 0, .int 0, .ref f5, .ref f6, .ref f7, .ref f8, .ref f9, .ref f10, .ref f11]))] s.heap.size = A at hD ⊢
  have hA : ∀ q : Nat, s.heap.size ≤ q → A q := fun q h => by rw [← hAe]; exact Or.inr h
  have hS : va_S A s.heap s.heap [] := va_S.rf
  have hP : va_P (dC, dI) vwCl [(h0, .inr (9, [.ref tb, .int 0, .int 0, .int (-1), .int 0, .int 0, .int 0])), (h1, .inr (0, [.int 0, .int 0, .int 0, .int 0, .int 0, .ref f5, .ref f6, .ref f7, .ref f8, .ref f9, .ref f10, .ref f11]))] s.heap := hP
  have hl := lv_entry ([.ref h0, .ref h1]) (n := 3) (Nat.le_of_ble_eq_true rfl)
  rw [lg_entry_eq]
  generalize (lg_sl ([.ref h0, .ref h1]) ++ List.replicate (3 - (lg_sl ([.ref h0, .ref h1])).length) Slot.unset).toArray = ls at hl ⊢
  have hl : lv_has ls 3 [(0, .ref h0), (1, .ref h1)] := hl
  refine lv_aload_n hx hb dX9_readInto_0 rfl (lv_at hl 0 rfl) ?_
  refine lv_iconst (v := 0) hx hb dX9_readInto_1 (by decide) ?_
  refine va_put (D := (dC, dI)) (ci := 9) (v := .int 0) (ty := .int) (C := RX9) (T := TX9) (N := 7) hx hb hts i_c_X9_readInto_0_X9 tyX9 tyX9_ok nmX9 hown hK hP hD hS 0 rfl rfl 2 (by decide) (hts (.fieldLink RX9 22 "OnePassport$Tape" "fault" "I") (List.mem_of_getElem? (i := 1) rfl)) (fun _ h9 => h9) rfl (by decide +kernel) rfl rfl (Nat.le_of_ble_eq_true rfl) dX9_readInto_2 (fun H locs hP hD hS => ?_)
  have hP : va_P (dC, dI) vwCl [(h0, .inr (9, [.ref tb, .int 0, .int 0, .int (-1), .int 0, .int 0, .int 0])), (h1, .inr (0, [.int 0, .int 0, .int 0, .int 0, .int 0, .ref f5, .ref f6, .ref f7, .ref f8, .ref f9, .ref f10, .ref f11]))] H := hP
  have hD : va_D A [(h0, .inr (9, [.ref tb, .int 0, .int 0, .int (-1), .int 0, .int 0, .int 0])), (h1, .inr (0, [.int 0, .int 0, .int 0, .int 0, .int 0, .ref f5, .ref f6, .ref f7, .ref f8, .ref f9, .ref f10, .ref f11]))] := hD
  refine lv_aload_n hx hb dX9_readInto_5 rfl (lv_at hl 0 rfl) ?_
  refine lv_iconst (v := (-1)) hx hb dX9_readInto_6 (by decide) ?_
  refine va_put (D := (dC, dI)) (ci := 9) (v := .int (-1)) (ty := .int) (C := RX9) (T := TX9) (N := 7) hx hb hts i_c_X9_readInto_0_X9 tyX9 tyX9_ok nmX9 hown hK hP hD hS 0 rfl rfl 3 (by decide) (hts (.fieldLink RX9 15 "OnePassport$Tape" "place" "I") (List.mem_of_getElem? (i := 2) rfl)) (fun _ h9 => h9) rfl (by decide +kernel) rfl rfl (Nat.le_of_ble_eq_true rfl) dX9_readInto_7 (fun H locs hP hD hS => ?_)
  have hP : va_P (dC, dI) vwCl [(h0, .inr (9, [.ref tb, .int 0, .int 0, .int (-1), .int 0, .int 0, .int 0])), (h1, .inr (0, [.int 0, .int 0, .int 0, .int 0, .int 0, .ref f5, .ref f6, .ref f7, .ref f8, .ref f9, .ref f10, .ref f11]))] H := hP
  have hD : va_D A [(h0, .inr (9, [.ref tb, .int 0, .int 0, .int (-1), .int 0, .int 0, .int 0])), (h1, .inr (0, [.int 0, .int 0, .int 0, .int 0, .int 0, .ref f5, .ref f6, .ref f7, .ref f8, .ref f9, .ref f10, .ref f11]))] := hD
  refine lv_aload_n hx hb dX9_readInto_10 rfl (lv_at hl 0 rfl) ?_
  refine lv_iconst (v := 0) hx hb dX9_readInto_11 (by decide) ?_
  refine va_put (D := (dC, dI)) (ci := 9) (v := .int 0) (ty := .int) (C := RX9) (T := TX9) (N := 7) hx hb hts i_c_X9_readInto_0_X9 tyX9 tyX9_ok nmX9 hown hK hP hD hS 0 rfl rfl 6 (by decide) (hts (.fieldLink RX9 25 "OnePassport$Tape" "stop" "I") (List.mem_of_getElem? (i := 3) rfl)) (fun _ h9 => h9) rfl (by decide +kernel) rfl rfl (Nat.le_of_ble_eq_true rfl) dX9_readInto_12 (fun H locs hP hD hS => ?_)
  have hP : va_P (dC, dI) vwCl [(h0, .inr (9, [.ref tb, .int 0, .int 0, .int (-1), .int 0, .int 0, .int 0])), (h1, .inr (0, [.int 0, .int 0, .int 0, .int 0, .int 0, .ref f5, .ref f6, .ref f7, .ref f8, .ref f9, .ref f10, .ref f11]))] H := hP
  have hD : va_D A [(h0, .inr (9, [.ref tb, .int 0, .int 0, .int (-1), .int 0, .int 0, .int 0])), (h1, .inr (0, [.int 0, .int 0, .int 0, .int 0, .int 0, .ref f5, .ref f6, .ref f7, .ref f8, .ref f9, .ref f10, .ref f11]))] := hD
  refine lv_aload_n hx hb dX9_readInto_15 rfl (lv_at hl 1 rfl) ?_
  have hPc := hP.sub (ws' := [(h1, .inr (0, [.int 0, .int 0, .int 0, .int 0, .int 0, .ref f5, .ref f6, .ref f7, .ref f8, .ref f9, .ref f10, .ref f11]))]) [1] rfl
  have hDc := hD.sub (ws' := [(h1, .inr (0, [.int 0, .int 0, .int 0, .int 0, .int 0, .ref f5, .ref f6, .ref f7, .ref f8, .ref f9, .ref f10, .ref f11]))]) [1] (by decide) rfl
  have hKc := hK.sub (tys' := []) [] rfl
  have hFc := va_free (wc := [(h1, .inr (0, [.int 0, .int 0, .int 0, .int 0, .int 0, .ref f5, .ref f6, .ref f7, .ref f8, .ref f9, .ref f10, .ref f11]))]) hD hS hA [1] rfl
  refine va_callv (va_runV (As := []) (rest := []) ⟨hx, hb, hml, hown, hts⟩ (c_X0_clear_0 l dC dI h1 f5 f6 f7 f8 f9 f10 f11 H.size) (cwV 0 hts g_c_X9_readInto_0_0 rfl rfl rfl (by decide +kernel) ⟨Nat.le_of_ble_eq_true rfl, Nat.le_of_ble_eq_true rfl⟩) ⟨fun a U g mk q => by obtain ⟨q0, q1, qP, qK, qD⟩ := q; exact ⟨q0, q1, qP, va_K.moved (u := U) (U := U.calling g mk a) (Vm.Alike.refl U.vm) qK, qD⟩, va_recv hKc hPc (ci := 0) (q0 := 0) rfl rfl, fun U hU hW => ⟨rfl, by rw [hU], by rw [hU]; exact hPc, va_K.moved hW.alike hKc, hDc.weaken (fun _ _ _ _ => trivial)⟩⟩ rfl rfl hl.1 rfl (lv_room (Nat.le_of_ble_eq_true rfl)) dX9_readInto_16 ⟨Nat.le_of_ble_eq_true rfl, Nat.le_of_ble_eq_true rfl⟩) hS (fun q _ h => hFc q h) hFc (fun u t H1 locs ht hvm hw hB hz1 hk1 hS => ?_)
  obtain ⟨hP1, hK1, hD1⟩ := hB
  rw [ht] at hP1
  try dsimp only at hw
  obtain ⟨hP, hD⟩ := va_join (wr := [(h0, .inr (9, [.ref tb, .int 0, .int 0, .int (-1), .int 0, .int 0, .int 0]))]) (w1 := [(h1, .inr (0, [.int 0, .int 0, .int 0, .int 0, .int 0, .ref f5, .ref f6, .ref f7, .ref f8, .ref f9, .ref f10, .ref f11]))]) hP hD [1] [0] rfl rfl (by decide) (by decide) hk1 hFc hP1 hD1
  clear hPc hDc hKc hFc hk1 hP1 hK1 hD1
  generalize H1 = H at hP hS ⊢
  have hP : va_P (dC, dI) vwCl [(h0, .inr (9, [.ref tb, .int 0, .int 0, .int (-1), .int 0, .int 0, .int 0])), (h1, .inr (0, [.int 0, .int 0, .int 0, .int 0, .int 0, .ref f5, .ref f6, .ref f7, .ref f8, .ref f9, .ref f10, .ref f11]))] H := hP
  have hD : va_D A [(h0, .inr (9, [.ref tb, .int 0, .int 0, .int (-1), .int 0, .int 0, .int 0])), (h1, .inr (0, [.int 0, .int 0, .int 0, .int 0, .int 0, .ref f5, .ref f6, .ref f7, .ref f8, .ref f9, .ref f10, .ref f11]))] := hD
  refine lv_aload_n hx hb dX9_readInto_19 rfl (lv_at hl 0 rfl) ?_
  have hPc := hP.sub (ws' := [(h0, .inr (9, [.ref tb, .int 0, .int 0, .int (-1), .int 0, .int 0, .int 0]))]) [0] rfl
  have hDc := hD.sub (ws' := [(h0, .inr (9, [.ref tb, .int 0, .int 0, .int (-1), .int 0, .int 0, .int 0]))]) [0] (by decide) rfl
  have hKc := hK.sub (tys' := []) [] rfl
  have hFc := va_free (wc := [(h0, .inr (9, [.ref tb, .int 0, .int 0, .int (-1), .int 0, .int 0, .int 0]))]) hD hS hA [0] rfl
  refine va_callv (va_runV (As := []) (rest := []) ⟨hx, hb, hml, hown, hts⟩ (c_X9_step_0 l dC dI h0 tb H.size) (cwV 0 hts g_c_X9_readInto_0_1 rfl rfl rfl (by decide +kernel) ⟨Nat.le_of_ble_eq_true rfl, Nat.le_of_ble_eq_true rfl⟩) ⟨fun a U g mk q => by obtain ⟨q0, q1, qP, qK, qD⟩ := q; exact ⟨q0, q1, qP, va_K.moved (u := U) (U := U.calling g mk a) (Vm.Alike.refl U.vm) qK, qD⟩, va_recv hKc hPc (ci := 9) (q0 := 0) rfl rfl, fun U hU hW => ⟨rfl, by rw [hU], by rw [hU]; exact hPc, va_K.moved hW.alike hKc, hDc.weaken (fun _ _ _ _ => trivial)⟩⟩ rfl rfl hl.1 rfl (lv_room (Nat.le_of_ble_eq_true rfl)) dX9_readInto_20 ⟨Nat.le_of_ble_eq_true rfl, Nat.le_of_ble_eq_true rfl⟩) hS (fun q _ h => hFc q h) hFc (fun u t H1 locs ht hvm hw hB hz1 hk1 hS => ?_)
  obtain ⟨hP1, hK1, hD1⟩ := hB
  rw [ht] at hP1
  try dsimp only at hw
  obtain ⟨hP, hD⟩ := va_join (wr := [(h1, .inr (0, [.int 0, .int 0, .int 0, .int 0, .int 0, .ref f5, .ref f6, .ref f7, .ref f8, .ref f9, .ref f10, .ref f11]))]) (w1 := [(h0, .inr (9, [.ref tb, .int 0, .int 0, .int (-1), .int 0, .int 0, .int 0]))]) hP hD [0] [1] rfl rfl (by decide) (by decide) hk1 hFc hP1 hD1
  clear hPc hDc hKc hFc hk1 hP1 hK1 hD1
  generalize H1 = H at hP hS ⊢
  have hP : va_P (dC, dI) vwCl [(h1, .inr (0, [.int 0, .int 0, .int 0, .int 0, .int 0, .ref f5, .ref f6, .ref f7, .ref f8, .ref f9, .ref f10, .ref f11])), (h0, .inr (9, [.ref tb, .int 0, .int 0, .int (-1), .int 0, .int 0, .int 0]))] H := hP
  have hD : va_D A [(h1, .inr (0, [.int 0, .int 0, .int 0, .int 0, .int 0, .ref f5, .ref f6, .ref f7, .ref f8, .ref f9, .ref f10, .ref f11])), (h0, .inr (9, [.ref tb, .int 0, .int 0, .int (-1), .int 0, .int 0, .int 0]))] := hD
  refine lv_iconst (v := 0) hx hb dX9_readInto_23 (by decide) ?_
  refine lv_istore_n (lv' := [(2, .int 0), (0, .ref h0), (1, .ref h1)]) hx hb dX9_readInto_24 rfl hl (by decide) rfl (fun ls hl => ?_)
  refine lv_iload_n hx hb dX9_readInto_25 rfl (lv_at hl 0 rfl) ?_
  refine lv_sipush (v := 600) hx hb dX9_readInto_26 (by decide) ?_
  refine lv_icmp_gt (tgt := 57) hx hb dX9_readInto_29 (by decide) (fun c_3 => absurd c_3 (by decide)) (fun c_3 => ?_)
  refine lv_aload_n hx hb dX9_readInto_32 rfl (lv_at hl 1 rfl) ?_
  refine va_get (D := (dC, dI)) (ci := 9) (v := .int 0) (C := RX9) (T := TX9) (N := 7) hx hb hts i_c_X9_readInto_0_X9 hown hK hP 1 rfl rfl 2 (by decide) (hts (.fieldLink RX9 22 "OnePassport$Tape" "fault" "I") (List.mem_of_getElem? (i := 1) rfl)) (fun _ h9 => h9) rfl dX9_readInto_33 ?_
  refine lv_if_ne (tgt := 57) hx hb dX9_readInto_36 (by decide) (fun c_4 => absurd c_4 (by decide)) (fun c_4 => ?_)
  refine lv_aload_n hx hb dX9_readInto_39 rfl (lv_at hl 1 rfl) ?_
  refine va_get (D := (dC, dI)) (ci := 9) (v := .int 0) (C := RX9) (T := TX9) (N := 7) hx hb hts i_c_X9_readInto_0_X9 hown hK hP 1 rfl rfl 4 (by decide) (hts (.fieldLink RX9 36 "OnePassport$Tape" "kind" "I") (List.mem_of_getElem? (i := 25) rfl)) (fun _ h9 => h9) rfl dX9_readInto_40 ?_
  refine lv_if_eq (tgt := 57) hx hb dX9_readInto_43 (by decide) (fun c_5 => ?_) (fun c_5 => absurd rfl c_5)
  have hP9 := hP.sub (ws' := [(h0, .inr (9, [.ref tb, .int 0, .int 0, .int (-1), .int 0, .int 0, .int 0])), (h1, .inr (0, [.int 0, .int 0, .int 0, .int 0, .int 0, .ref f5, .ref f6, .ref f7, .ref f8, .ref f9, .ref f10, .ref f11]))]) [1, 0] rfl
  have hD9 := hD.sub (ws' := [(h0, .inr (9, [.ref tb, .int 0, .int 0, .int (-1), .int 0, .int 0, .int 0])), (h1, .inr (0, [.int 0, .int 0, .int 0, .int 0, .int 0, .ref f5, .ref f6, .ref f7, .ref f8, .ref f9, .ref f10, .ref f11]))]) [1, 0] (by decide) rfl
  exact W.vret hx hb hr (fun t ht hW => ⟨⟨(), rfl, trivial, by rw [ht]; exact hP9, va_K.moved hW.alike hK, hD9⟩, hS.F ht⟩) hS.2.2 dX9_readInto_57

theorem dX0_everyone_0 : decode cX0_everyone 0 = .ok (.iconst 1, 1) := by decide +kernel
theorem dX0_everyone_1 : decode cX0_everyone 1 = .ok (.aload_n 0, 1) := by decide +kernel
theorem dX0_everyone_2 : decode cX0_everyone 2 = .ok (.getfield 43, 3) := by decide +kernel
theorem dX0_everyone_5 : decode cX0_everyone 5 = .ok (.ishl, 1) := by decide +kernel
theorem dX0_everyone_6 : decode cX0_everyone 6 = .ok (.iconst 1, 1) := by decide +kernel
theorem dX0_everyone_7 : decode cX0_everyone 7 = .ok (.isub, 1) := by decide +kernel
theorem dX0_everyone_8 : decode cX0_everyone 8 = .ok (.ireturn, 1) := by decide +kernel
def w_c_X0_everyone_0 : List Cond := .code yX0_everyone cX0_everyone 1 (some .int) :: ([.fieldLink RX0 43 "OnePassport$Family" "persons" "I"] ++ wsX00)
theorem i_c_X0_everyone_0_X0 : ∀ w ∈ wsX00, w ∈ w_c_X0_everyone_0 := fun _ h => List.mem_cons_of_mem _ (List.mem_append_right _ h)
set_option maxHeartbeats 4000000 in
set_option maxRecDepth 100000 in
theorem c_X0_everyone_0 (l : Launch) (dC : Nat → ClassId) (dI : Nat → Nat → Nat) (h0 : Nat) (f5 : Nat) (f6 : Nat) (f7 : Nat) (f8 : Nat) (f9 : Nat) (f10 : Nat) (f11 : Nat) (sz : Nat) : Met l yX0_everyone w_c_X0_everyone_0 ({ frames := 0, cells := 0, slots := 0, locals := 0 }) (va_Pc [.ref h0] (fun U => U.heap.size = sz ∧ va_P (dC, dI) vwCl [(h0, .inr (0, [.int 0, .int 0, .int 0, .int 0, .int 0, .ref f5, .ref f6, .ref f7, .ref f8, .ref f9, .ref f10, .ref f11]))] U.heap ∧ va_K (dC, dI) vwCl [] U ∧ va_D (fun _ => True) [(h0, .inr (0, [.int 0, .int 0, .int 0, .int 0, .int 0, .ref f5, .ref f6, .ref f7, .ref f8, .ref f9, .ref f10, .ref f11]))])) (va_Qi (fun (r : Int32) (_ : Unit) => r = 0) (fun (_ : Unit) (t : State) => va_P (dC, dI) vwCl [(h0, .inr (0, [.int 0, .int 0, .int 0, .int 0, .int 0, .ref f5, .ref f6, .ref f7, .ref f8, .ref f9, .ref f10, .ref f11]))] t.heap ∧ va_K (dC, dI) vwCl [] t ∧ va_D (va_A [(h0, .inr (0, [.int 0, .int 0, .int 0, .int 0, .int 0, .ref f5, .ref f6, .ref f7, .ref f8, .ref f9, .ref f10, .ref f11]))] sz) [(h0, .inr (0, [.int 0, .int 0, .int 0, .int 0, .int 0, .ref f5, .ref f6, .ref f7, .ref f8, .ref f9, .ref f10, .ref f11]))]) (va_A [(h0, .inr (0, [.int 0, .int 0, .int 0, .int 0, .int 0, .ref f5, .ref f6, .ref f7, .ref f8, .ref f9, .ref f10, .ref f11]))] sz)) 0 0 (va_A [(h0, .inr (0, [.int 0, .int 0, .int 0, .int 0, .int 0, .ref f5, .ref f6, .ref f7, .ref f8, .ref f9, .ref f10, .ref f11]))] sz) := by
  refine Met.ofW (cc := cX0_everyone) (maxL := 1) (ret := (some .int)) (by decide) rfl ?_
  intro p e s m args below meth c s₁ B hml hv
  obtain ⟨rfl, hsz, hP, hK, hD0⟩ := hv
  have hx := B.exec
  have hb := B.bytes
  have hr := B.returns
  have hts := atoms_spec (ws := w_c_X0_everyone_0) B.pre
  have hown : s.vm.findClass RX0 = some m.cls := findClass_of_methodNamed B.named
  have hlocks := B.notSynchronized
  subst hsz
  have hD := hD0.self (sz := s.heap.size)
  generalize hAe : va_A [(h0, .inr (0, [.int 0, .int 0, .int 0, .int 0, .int 0, .ref f5, .ref f6, .ref f7, .ref f8, .ref f9, .ref f10, .ref f11]))] s.heap.size = A at hD ⊢
  have hA : ∀ q : Nat, s.heap.size ≤ q → A q := fun q h => by rw [← hAe]; exact Or.inr h
  have hS : va_S A s.heap s.heap [] := va_S.rf
  have hP : va_P (dC, dI) vwCl [(h0, .inr (0, [.int 0, .int 0, .int 0, .int 0, .int 0, .ref f5, .ref f6, .ref f7, .ref f8, .ref f9, .ref f10, .ref f11]))] s.heap := hP
  have hl := lv_entry ([.ref h0]) (n := 1) (Nat.le_of_ble_eq_true rfl)
  rw [lg_entry_eq]
  generalize (lg_sl ([.ref h0]) ++ List.replicate (1 - (lg_sl ([.ref h0])).length) Slot.unset).toArray = ls at hl ⊢
  have hl : lv_has ls 1 [(0, .ref h0)] := hl
  refine lv_iconst (v := 1) hx hb dX0_everyone_0 (by decide) ?_
  refine lv_aload_n hx hb dX0_everyone_1 rfl (lv_at hl 0 rfl) ?_
  refine va_get (D := (dC, dI)) (ci := 0) (v := .int 0) (C := RX0) (T := TX0) (N := 12) hx hb hts i_c_X0_everyone_0_X0 hown hK hP 0 rfl rfl 3 (by decide) (hts (.fieldLink RX0 43 "OnePassport$Family" "persons" "I") (List.mem_of_getElem? (i := 1) rfl)) (fun _ h9 => h9) rfl dX0_everyone_2 ?_
  refine lv_ishl hx hb dX0_everyone_5 ?_
  refine wx_ti (y := 1) (by decide) ?_
  refine lv_iconst (v := 1) hx hb dX0_everyone_6 (by decide) ?_
  refine lv_isub hx hb dX0_everyone_7 ?_
  refine wx_ti (y := 0) (by decide) ?_
  have hP9 := hP.sub (ws' := [(h0, .inr (0, [.int 0, .int 0, .int 0, .int 0, .int 0, .ref f5, .ref f6, .ref f7, .ref f8, .ref f9, .ref f10, .ref f11]))]) [0] rfl
  have hD9 := hD.sub (ws' := [(h0, .inr (0, [.int 0, .int 0, .int 0, .int 0, .int 0, .ref f5, .ref f6, .ref f7, .ref f8, .ref f9, .ref f10, .ref f11]))]) [0] (by decide) rfl
  exact W.iret (v := 0) hx hb hr (fun t ht hW => ⟨⟨0, (), rfl, rfl, by rw [ht]; exact hP9, va_K.moved hW.alike hK, hD9⟩, hS.F ht⟩) hS.2.2 dX0_everyone_8

theorem dX6_mergedTrail_0 : decode cX6_mergedTrail 0 = .ok (.iload_n 1, 1) := by decide +kernel
theorem dX6_mergedTrail_1 : decode cX6_mergedTrail 1 = .ok (.ifCond .eq 8, 3) := by decide +kernel
theorem dX6_mergedTrail_9 : decode cX6_mergedTrail 9 = .ok (.iconst 1, 1) := by decide +kernel
theorem dX6_mergedTrail_10 : decode cX6_mergedTrail 10 = .ok (.ireturn, 1) := by decide +kernel
def w_c_X6_mergedTrail_0 : List Cond := .code yX6_mergedTrail cX6_mergedTrail 5 (some .int) :: ([])
set_option maxHeartbeats 4000000 in
set_option maxRecDepth 100000 in
theorem c_X6_mergedTrail_0 (l : Launch) (dC : Nat → ClassId) (dI : Nat → Nat → Nat) (p0 : Int32) (sz : Nat) : Met l yX6_mergedTrail w_c_X6_mergedTrail_0 ({ frames := 0, cells := 0, slots := 0, locals := 0 }) (va_Pc [.int p0, .int 0] (fun U => U.heap.size = sz ∧ va_P (dC, dI) vwCl [] U.heap ∧ va_K (dC, dI) vwCl [] U ∧ va_D (fun _ => True) [])) (va_Qi (fun (r : Int32) (_ : Unit) => r = 1) (fun (_ : Unit) (t : State) => va_P (dC, dI) vwCl [] t.heap ∧ va_K (dC, dI) vwCl [] t ∧ va_D (va_A [] sz) []) (va_A [] sz)) 0 0 (va_A [] sz) := by
  refine Met.ofW (cc := cX6_mergedTrail) (maxL := 5) (ret := (some .int)) (by decide) rfl ?_
  intro p e s m args below meth c s₁ B hml hv
  obtain ⟨rfl, hsz, hP, hK, hD0⟩ := hv
  have hx := B.exec
  have hb := B.bytes
  have hr := B.returns
  have hts := atoms_spec (ws := w_c_X6_mergedTrail_0) B.pre
  have hown : s.vm.findClass RX6 = some m.cls := findClass_of_methodNamed B.named
  have hlocks := B.notSynchronized
  subst hsz
  have hD := hD0.self (sz := s.heap.size)
  generalize hAe : va_A [] s.heap.size = A at hD ⊢
  have hA : ∀ q : Nat, s.heap.size ≤ q → A q := fun q h => by rw [← hAe]; exact Or.inr h
  have hS : va_S A s.heap s.heap [] := va_S.rf
  have hP : va_P (dC, dI) vwCl [] s.heap := hP
  have hl := lv_entry ([.int p0, .int 0]) (n := 5) (Nat.le_of_ble_eq_true rfl)
  rw [lg_entry_eq]
  generalize (lg_sl ([.int p0, .int 0]) ++ List.replicate (5 - (lg_sl ([.int p0, .int 0])).length) Slot.unset).toArray = ls at hl ⊢
  have hl : lv_has ls 5 [(0, .int p0), (1, .int 0)] := hl
  refine lv_iload_n hx hb dX6_mergedTrail_0 rfl (lv_at hl 1 rfl) ?_
  refine lv_if_eq (tgt := 9) hx hb dX6_mergedTrail_1 (by decide) (fun c_1 => ?_) (fun c_1 => absurd rfl c_1)
  refine lv_iconst (v := 1) hx hb dX6_mergedTrail_9 (by decide) ?_
  have hP9 := hP.sub (ws' := []) [] rfl
  have hD9 := hD.sub (ws' := []) [] (by decide) rfl
  exact W.iret (v := 1) hx hb hr (fun t ht hW => ⟨⟨1, (), rfl, rfl, by rw [ht]; exact hP9, va_K.moved hW.alike hK, hD9⟩, hS.F ht⟩) hS.2.2 dX6_mergedTrail_10

theorem dX6_longer_0 : decode cX6_longer 0 = .ok (.iload_n 0, 1) := by decide +kernel
theorem dX6_longer_1 : decode cX6_longer 1 = .ok (.iconst 2, 1) := by decide +kernel
theorem dX6_longer_2 : decode cX6_longer 2 = .ok (.imul, 1) := by decide +kernel
theorem dX6_longer_3 : decode cX6_longer 3 = .ok (.iload_n 1, 1) := by decide +kernel
theorem dX6_longer_4 : decode cX6_longer 4 = .ok (.iadd, 1) := by decide +kernel
theorem dX6_longer_5 : decode cX6_longer 5 = .ok (.istore_n 2, 1) := by decide +kernel
theorem dX6_longer_6 : decode cX6_longer 6 = .ok (.iload_n 2, 1) := by decide +kernel
theorem dX6_longer_7 : decode cX6_longer 7 = .ok (.bipush 16, 2) := by decide +kernel
theorem dX6_longer_9 : decode cX6_longer 9 = .ok (.if_icmp .ge 7, 3) := by decide +kernel
theorem dX6_longer_12 : decode cX6_longer 12 = .ok (.iload_n 2, 1) := by decide +kernel
theorem dX6_longer_13 : decode cX6_longer 13 = .ok (.goto 10, 3) := by decide +kernel
theorem dX6_longer_16 : decode cX6_longer 16 = .ok (.bipush 8, 2) := by decide +kernel
theorem dX6_longer_18 : decode cX6_longer 18 = .ok (.iload_n 2, 1) := by decide +kernel
theorem dX6_longer_19 : decode cX6_longer 19 = .ok (.bipush 7, 2) := by decide +kernel
theorem dX6_longer_21 : decode cX6_longer 21 = .ok (.iand, 1) := by decide +kernel
theorem dX6_longer_22 : decode cX6_longer 22 = .ok (.ior, 1) := by decide +kernel
theorem dX6_longer_23 : decode cX6_longer 23 = .ok (.ireturn, 1) := by decide +kernel
def w_c_X6_longer : List Cond := .code yX6_longer cX6_longer 3 (some .int) :: ([])
set_option maxHeartbeats 4000000 in
set_option maxRecDepth 100000 in
theorem c_X6_longer (l : Launch) (dC : Nat → ClassId) (dI : Nat → Nat → Nat) (t : Nat) (b : Nat) (ht : t < 16) (hb2 : b < 2) (sz : Nat) : Met l yX6_longer w_c_X6_longer ({ frames := 0, cells := 0, slots := 0, locals := 0 }) (va_Pc [.int (nI t), .int (nI b)] (fun U => U.heap.size = sz ∧ va_P (dC, dI) vwCl [] U.heap ∧ va_K (dC, dI) vwCl [] U ∧ va_D (fun _ => True) [])) (va_Qi (fun (r : Int32) (_ : Unit) => ∃ k, k < 16 ∧ r = nI k) (fun (_ : Unit) (t : State) => va_P (dC, dI) vwCl [] t.heap ∧ va_K (dC, dI) vwCl [] t ∧ va_D (va_A [] sz) []) (va_A [] sz)) 0 0 (va_A [] sz) := by
  refine Met.ofW (cc := cX6_longer) (maxL := 3) (ret := (some .int)) (by decide) rfl ?_
  intro p e s m args below meth c s₁ B hml hv
  obtain ⟨rfl, hsz, hP, hK, hD0⟩ := hv
  have hx := B.exec
  have hb := B.bytes
  have hr := B.returns
  have hts := atoms_spec (ws := w_c_X6_longer) B.pre
  have hown : s.vm.findClass RX6 = some m.cls := findClass_of_methodNamed B.named
  have hlocks := B.notSynchronized
  subst hsz
  have hD := hD0.self (sz := s.heap.size)
  generalize hAe : va_A [] s.heap.size = A at hD ⊢
  have hA : ∀ q : Nat, s.heap.size ≤ q → A q := fun q h => by rw [← hAe]; exact Or.inr h
  have hS : va_S A s.heap s.heap [] := va_S.rf
  have hP : va_P (dC, dI) vwCl [] s.heap := hP
  have hl := lv_entry ([.int (nI t), .int (nI b)]) (n := 3) (Nat.le_of_ble_eq_true rfl)
  rw [lg_entry_eq]
  generalize (lg_sl ([.int (nI t), .int (nI b)]) ++ List.replicate (3 - (lg_sl ([.int (nI t), .int (nI b)])).length) Slot.unset).toArray = ls at hl ⊢
  have hl : lv_has ls 3 [(0, .int (nI t)), (1, .int (nI b))] := hl
  refine lv_iload_n hx hb dX6_longer_0 rfl (lv_at hl 0 rfl) ?_
  refine lv_iconst (v := 2) hx hb dX6_longer_1 (by decide) ?_
  refine lv_imul hx hb dX6_longer_2 ?_
  refine lv_iload_n hx hb dX6_longer_3 rfl (lv_at hl 1 rfl) ?_
  refine lv_iadd hx hb dX6_longer_4 ?_
  refine lv_istore_n (lv' := [(2, .int (((nI t) * 2) + (nI b))), (0, .int (nI t)), (1, .int (nI b))]) hx hb dX6_longer_5 rfl hl (by decide) rfl (fun ls hl => ?_)
  refine lv_iload_n hx hb dX6_longer_6 rfl (lv_at hl 0 rfl) ?_
  refine lv_bipush (v := 16) hx hb dX6_longer_7 (by decide) ?_
  refine lv_icmp_ge (tgt := 16) hx hb dX6_longer_9 (by decide) (fun c_1 => ?_) (fun c_1 => ?_)
  · have i_1 : 16 ≤ (((nI t) * 2) + (nI b)).toInt := Int32.le_iff_toInt_le.mp c_1
    refine lv_bipush (v := 8) hx hb dX6_longer_16 (by decide) ?_
    refine lv_iload_n hx hb dX6_longer_18 rfl (lv_at hl 0 rfl) ?_
    refine lv_bipush (v := 7) hx hb dX6_longer_19 (by decide) ?_
    refine lv_iand hx hb dX6_longer_21 ?_
    refine lv_ior hx hb dX6_longer_22 ?_
    have hP9 := hP.sub (ws' := []) [] rfl
    have hD9 := hD.sub (ws' := []) [] (by decide) rfl
    exact W.iret (v := (8 ||| ((((nI t) * 2) + (nI b)) &&& 7))) hx hb hr (fun t ht hW => ⟨⟨(8 ||| ((((nI t) * 2) + (nI b)) &&& 7)), (), rfl, (wx_longer t ht b hb2), by rw [ht]; exact hP9, va_K.moved hW.alike hK, hD9⟩, hS.F ht⟩) hS.2.2 dX6_longer_23
  · have i_1 : (((nI t) * 2) + (nI b)).toInt < 16 := Int32.lt_iff_toInt_lt.mp (Int32.not_le.mp c_1)
    refine lv_iload_n hx hb dX6_longer_12 rfl (lv_at hl 0 rfl) ?_
    refine lv_goto (tgt := 23) hx hb dX6_longer_13 (by decide) ?_
    have hP9 := hP.sub (ws' := []) [] rfl
    have hD9 := hD.sub (ws' := []) [] (by decide) rfl
    exact W.iret (v := (((nI t) * 2) + (nI b))) hx hb hr (fun t ht hW => ⟨⟨(((nI t) * 2) + (nI b)), (), rfl, ⟨t * 2 + b, by have h9 := i_1; rw [show (nI t * 2 + nI b : Int32) = nI (t * 2 + b) from by rw [show (2 : Int32) = nI 2 from rfl, pk_mul, nI_add], nI_toInt (by omega)] at h9; omega, by rw [show (2 : Int32) = nI 2 from rfl, pk_mul, nI_add]⟩, by rw [ht]; exact hP9, va_K.moved hW.alike hK, hD9⟩, hS.F ht⟩) hS.2.2 dX6_longer_23

theorem dX6_learnStamps_0 : decode cX6_learnStamps 0 = .ok (.iconst 1, 1) := by decide +kernel
theorem dX6_learnStamps_1 : decode cX6_learnStamps 1 = .ok (.istore_n 2, 1) := by decide +kernel
theorem dX6_learnStamps_2 : decode cX6_learnStamps 2 = .ok (.iload_n 2, 1) := by decide +kernel
theorem dX6_learnStamps_3 : decode cX6_learnStamps 3 = .ok (.bipush 16, 2) := by decide +kernel
theorem dX6_learnStamps_5 : decode cX6_learnStamps 5 = .ok (.if_icmp .ge 91, 3) := by decide +kernel
theorem dX6_learnStamps_8 : decode cX6_learnStamps 8 = .ok (.iconst 0, 1) := by decide +kernel
theorem dX6_learnStamps_9 : decode cX6_learnStamps 9 = .ok (.istore_n 3, 1) := by decide +kernel
theorem dX6_learnStamps_10 : decode cX6_learnStamps 10 = .ok (.iload_n 3, 1) := by decide +kernel
theorem dX6_learnStamps_11 : decode cX6_learnStamps 11 = .ok (.iconst 2, 1) := by decide +kernel
theorem dX6_learnStamps_12 : decode cX6_learnStamps 12 = .ok (.if_icmp .ge 78, 3) := by decide +kernel
theorem dX6_learnStamps_15 : decode cX6_learnStamps 15 = .ok (.iconst 2, 1) := by decide +kernel
theorem dX6_learnStamps_16 : decode cX6_learnStamps 16 = .ok (.iload_n 2, 1) := by decide +kernel
theorem dX6_learnStamps_17 : decode cX6_learnStamps 17 = .ok (.imul, 1) := by decide +kernel
theorem dX6_learnStamps_18 : decode cX6_learnStamps 18 = .ok (.iload_n 3, 1) := by decide +kernel
theorem dX6_learnStamps_19 : decode cX6_learnStamps 19 = .ok (.iadd, 1) := by decide +kernel
theorem dX6_learnStamps_20 : decode cX6_learnStamps 20 = .ok (.istore 4, 2) := by decide +kernel
theorem dX6_learnStamps_22 : decode cX6_learnStamps 22 = .ok (.aload_n 0, 1) := by decide +kernel
theorem dX6_learnStamps_23 : decode cX6_learnStamps 23 = .ok (.getfield 27, 3) := by decide +kernel
theorem dX6_learnStamps_26 : decode cX6_learnStamps 26 = .ok (.iload 4, 2) := by decide +kernel
theorem dX6_learnStamps_28 : decode cX6_learnStamps 28 = .ok (.aload_n 0, 1) := by decide +kernel
theorem dX6_learnStamps_29 : decode cX6_learnStamps 29 = .ok (.getfield 24, 3) := by decide +kernel
theorem dX6_learnStamps_32 : decode cX6_learnStamps 32 = .ok (.iload_n 2, 1) := by decide +kernel
theorem dX6_learnStamps_33 : decode cX6_learnStamps 33 = .ok (.iload_n 3, 1) := by decide +kernel
theorem dX6_learnStamps_34 : decode cX6_learnStamps 34 = .ok (.invokestatic 90, 3) := by decide +kernel
theorem dX6_learnStamps_37 : decode cX6_learnStamps 37 = .ok (.iaload, 1) := by decide +kernel
theorem dX6_learnStamps_38 : decode cX6_learnStamps 38 = .ok (.iastore, 1) := by decide +kernel
theorem dX6_learnStamps_39 : decode cX6_learnStamps 39 = .ok (.iconst 0, 1) := by decide +kernel
theorem dX6_learnStamps_40 : decode cX6_learnStamps 40 = .ok (.istore 5, 2) := by decide +kernel
theorem dX6_learnStamps_42 : decode cX6_learnStamps 42 = .ok (.iload 5, 2) := by decide +kernel
theorem dX6_learnStamps_44 : decode cX6_learnStamps 44 = .ok (.aload_n 0, 1) := by decide +kernel
theorem dX6_learnStamps_45 : decode cX6_learnStamps 45 = .ok (.getfield 55, 3) := by decide +kernel
theorem dX6_learnStamps_48 : decode cX6_learnStamps 48 = .ok (.if_icmp .ge 36, 3) := by decide +kernel
theorem dX6_learnStamps_84 : decode cX6_learnStamps 84 = .ok (.iinc 3 1, 3) := by decide +kernel
theorem dX6_learnStamps_87 : decode cX6_learnStamps 87 = .ok (.goto (-77), 3) := by decide +kernel
theorem dX6_learnStamps_90 : decode cX6_learnStamps 90 = .ok (.iinc 2 1, 3) := by decide +kernel
theorem dX6_learnStamps_93 : decode cX6_learnStamps 93 = .ok (.goto (-91), 3) := by decide +kernel
theorem dX6_learnStamps_96 : decode cX6_learnStamps 96 = .ok (.return_, 1) := by decide +kernel
def w_c_X6_learnStamps_0 : List Cond := .code yX6_learnStamps cX6_learnStamps 6 none :: ([.fieldLink RX6 27 "OnePassport$Rules" "nextTrails" "[I", .fieldLink RX6 24 "OnePassport$Rules" "trails" "[I", .methodLink RX6 90 yX6_longer, .static yX6_longer, .initialized RX6, .code yX6_longer cX6_longer 3 (some .int), .fieldLink RX6 55 "OnePassport$Rules" "posts" "I"] ++ wsX60)
theorem i_c_X6_learnStamps_0_X6 : ∀ w ∈ wsX60, w ∈ w_c_X6_learnStamps_0 := fun _ h => List.mem_cons_of_mem _ (List.mem_append_right _ h)
set_option maxRecDepth 100000 in
theorem g_c_X6_learnStamps_0_0 : GoodIn w_c_X6_learnStamps_0 (va_wsS RX6 90 yX6_longer w_c_X6_longer) := goodIn_of _ (by decide +kernel)
set_option maxHeartbeats 4000000 in
set_option maxRecDepth 100000 in
theorem c_X6_learnStamps_0 (l : Launch) (dC : Nat → ClassId) (dI : Nat → Nat → Nat) (cI : ClassId) (h0 : Nat) (h1 : Nat) (b0 : Nat) (b1 : Nat) (b2 : Nat) (b3 : Nat) (b4 : Nat) (b5 : Nat) (b6 : Nat) (ff4 : Nat → Int32) (ff5 : Nat → Int32) (sz : Nat) : Met l yX6_learnStamps w_c_X6_learnStamps_0 ({ frames := 1, cells := 0, slots := 0, locals := 22 }) (va_Pc [.ref h0, .ref h1] (fun U => U.heap.size = sz ∧ va_P (dC, dI) vwCl [(h0, .inr (6, [.ref b0, .ref b1, .ref b2, .ref b3, .ref b4, .ref b5, .ref b6, .int 0, .int 0, .int 0, .int 0, .int 0])), (b4, .inl (cI, 16, .inl (ff4))), (b5, .inl (cI, 32, .inl (ff5)))] U.heap ∧ va_K (dC, dI) vwCl [(cI, .int)] U ∧ va_D (fun _ => True) [(h0, .inr (6, [.ref b0, .ref b1, .ref b2, .ref b3, .ref b4, .ref b5, .ref b6, .int 0, .int 0, .int 0, .int 0, .int 0])), (b4, .inl (cI, 16, .inl (ff4))), (b5, .inl (cI, 32, .inl (ff5)))])) (va_Qv (fun _ : Unit => True) (fun (_ : Unit) (t : State) => ∃ (g5 : Nat → Int32), va_P (dC, dI) vwCl [(h0, .inr (6, [.ref b0, .ref b1, .ref b2, .ref b3, .ref b4, .ref b5, .ref b6, .int 0, .int 0, .int 0, .int 0, .int 0])), (b4, .inl (cI, 16, .inl (ff4))), (b5, .inl (cI, 32, .inl (g5)))] t.heap ∧ va_K (dC, dI) vwCl [(cI, .int)] t ∧ va_D (va_A [(h0, .inr (6, [.ref b0, .ref b1, .ref b2, .ref b3, .ref b4, .ref b5, .ref b6, .int 0, .int 0, .int 0, .int 0, .int 0])), (b4, .inl (cI, 16, .inl (ff4))), (b5, .inl (cI, 32, .inl (ff5)))] sz) [(h0, .inr (6, [.ref b0, .ref b1, .ref b2, .ref b3, .ref b4, .ref b5, .ref b6, .int 0, .int 0, .int 0, .int 0, .int 0])), (b4, .inl (cI, 16, .inl (ff4))), (b5, .inl (cI, 32, .inl (g5)))]) (va_A [(h0, .inr (6, [.ref b0, .ref b1, .ref b2, .ref b3, .ref b4, .ref b5, .ref b6, .int 0, .int 0, .int 0, .int 0, .int 0])), (b4, .inl (cI, 16, .inl (ff4))), (b5, .inl (cI, 32, .inl (ff5)))] sz)) 0 0 (va_A [(h0, .inr (6, [.ref b0, .ref b1, .ref b2, .ref b3, .ref b4, .ref b5, .ref b6, .int 0, .int 0, .int 0, .int 0, .int 0])), (b4, .inl (cI, 16, .inl (ff4))), (b5, .inl (cI, 32, .inl (ff5)))] sz) := by
  refine Met.ofW (cc := cX6_learnStamps) (maxL := 6) (ret := none) (by decide) rfl ?_
  intro p e s m args below meth c s₁ B hml hv
  obtain ⟨rfl, hsz, hP, hK, hD0⟩ := hv
  have hx := B.exec
  have hb := B.bytes
  have hr := B.returns
  have hts := atoms_spec (ws := w_c_X6_learnStamps_0) B.pre
  have hown : s.vm.findClass RX6 = some m.cls := findClass_of_methodNamed B.named
  have hlocks := B.notSynchronized
  subst hsz
  have hD := hD0.self (sz := s.heap.size)
  generalize hAe : va_A [(h0, .inr (6, [.ref b0, .ref b1, .ref b2, .ref b3, .ref b4, .ref b5, .ref b6, .int 0, .int 0, .int 0, .int 0, .int 0])), (b4, .inl (cI, 16, .inl (ff4))), (b5, .inl (cI, 32, .inl (ff5)))] s.heap.size = A at hD ⊢
  have hA : ∀ q : Nat, s.heap.size ≤ q → A q := fun q h => by rw [← hAe]; exact Or.inr h
  have hS : va_S A s.heap s.heap [] := va_S.rf
  have hP : va_P (dC, dI) vwCl [(h0, .inr (6, [.ref b0, .ref b1, .ref b2, .ref b3, .ref b4, .ref b5, .ref b6, .int 0, .int 0, .int 0, .int 0, .int 0])), (b4, .inl (cI, 16, .inl (ff4))), (b5, .inl (cI, 32, .inl (ff5)))] s.heap := hP
  have hl := lv_entry ([.ref h0, .ref h1]) (n := 6) (Nat.le_of_ble_eq_true rfl)
  rw [lg_entry_eq]
  generalize (lg_sl ([.ref h0, .ref h1]) ++ List.replicate (6 - (lg_sl ([.ref h0, .ref h1])).length) Slot.unset).toArray = ls at hl ⊢
  have hl : lv_has ls 6 [(0, .ref h0), (1, .ref h1)] := hl
  refine lv_iconst (v := 1) hx hb dX6_learnStamps_0 (by decide) ?_
  refine lv_istore_n (lv' := [(2, .int 1), (0, .ref h0), (1, .ref h1)]) hx hb dX6_learnStamps_1 rfl hl (by decide) rfl (fun ls hl => ?_)
  refine wx_loopM (σ := Nat × (Nat → Int32)) (fun x => 16 - (x.1)) (fun x H locs ls => (x.1) ≤ 16 ∧ va_P (dC, dI) vwCl [(h0, .inr (6, [.ref b0, .ref b1, .ref b2, .ref b3, .ref b4, .ref b5, .ref b6, .int 0, .int 0, .int 0, .int 0, .int 0])), (b4, .inl (cI, 16, .inl (ff4))), (b5, .inl (cI, 32, .inl ((x.2))))] H ∧ va_D A [(h0, .inr (6, [.ref b0, .ref b1, .ref b2, .ref b3, .ref b4, .ref b5, .ref b6, .int 0, .int 0, .int 0, .int 0, .int 0])), (b4, .inl (cI, 16, .inl (ff4))), (b5, .inl (cI, 32, .inl ((x.2))))] ∧ va_S A s.heap H locs ∧ lv_has ls 6 [(0, .ref h0), (1, .ref h1), (2, .int (nI (x.1)))]) (1, ff5) ⟨by decide, hP, hD, hS, lv_sub hl [1, 2, 0] rfl⟩ (fun x H locs ls hI ih2 => ?_)
  obtain ⟨t, ft⟩ := x
  dsimp only at hI ih2
  obtain ⟨ht, hP, hD, hS, hl⟩ := hI
  refine lv_iload_n hx hb dX6_learnStamps_2 rfl (lv_at hl 2 rfl) ?_
  refine lv_bipush (v := 16) hx hb dX6_learnStamps_3 (by decide) ?_
  refine lv_icmp_ge (tgt := 96) hx hb dX6_learnStamps_5 (by decide) (fun c_1 => ?_) (fun c_1 => ?_)
  · have i_1 : 16 ≤ (nI t).toInt := Int32.le_iff_toInt_le.mp c_1
    have hP9 := hP.sub (ws' := [(h0, .inr (6, [.ref b0, .ref b1, .ref b2, .ref b3, .ref b4, .ref b5, .ref b6, .int 0, .int 0, .int 0, .int 0, .int 0])), (b4, .inl (cI, 16, .inl (ff4))), (b5, .inl (cI, 32, .inl (ft)))]) [0, 1, 2] rfl
    have hD9 := hD.sub (ws' := [(h0, .inr (6, [.ref b0, .ref b1, .ref b2, .ref b3, .ref b4, .ref b5, .ref b6, .int 0, .int 0, .int 0, .int 0, .int 0])), (b4, .inl (cI, 16, .inl (ff4))), (b5, .inl (cI, 32, .inl (ft)))]) [0, 1, 2] (by decide) rfl
    exact W.vret hx hb hr (fun t ht hW => ⟨⟨(), rfl, trivial, ft, by rw [ht]; exact hP9, va_K.moved hW.alike hK, hD9⟩, hS.F ht⟩) hS.2.2 dX6_learnStamps_96
  · have i_1 : (nI t).toInt < 16 := Int32.lt_iff_toInt_lt.mp (Int32.not_le.mp c_1)
    refine lv_iconst (v := 0) hx hb dX6_learnStamps_8 (by decide) ?_
    refine lv_istore_n (lv' := [(3, .int 0), (0, .ref h0), (1, .ref h1), (2, .int (nI t))]) hx hb dX6_learnStamps_9 rfl hl (by decide) rfl (fun ls hl => ?_)
    have ht15 : t < 16 := (Nat.not_le.mp (mt (fun h => (nI_leI (a := 16) (b := t) (by omega) (by omega)).mpr h) c_1))
    refine wx_loopM (σ := Nat × (Nat → Int32)) (fun x => 2 - (x.1)) (fun x H locs ls => (x.1) ≤ 2 ∧ va_P (dC, dI) vwCl [(h0, .inr (6, [.ref b0, .ref b1, .ref b2, .ref b3, .ref b4, .ref b5, .ref b6, .int 0, .int 0, .int 0, .int 0, .int 0])), (b4, .inl (cI, 16, .inl (ff4))), (b5, .inl (cI, 32, .inl ((x.2))))] H ∧ va_D A [(h0, .inr (6, [.ref b0, .ref b1, .ref b2, .ref b3, .ref b4, .ref b5, .ref b6, .int 0, .int 0, .int 0, .int 0, .int 0])), (b4, .inl (cI, 16, .inl (ff4))), (b5, .inl (cI, 32, .inl ((x.2))))] ∧ va_S A s.heap H locs ∧ lv_has ls 6 [(0, .ref h0), (1, .ref h1), (2, .int (nI t)), (3, .int (nI (x.1)))]) (0, ft) ⟨by decide, hP, hD, hS, lv_sub hl [1, 2, 3, 0] rfl⟩ (fun x H locs ls hI ih10 => ?_)
    obtain ⟨b, fb⟩ := x
    dsimp only at hI ih10
    obtain ⟨hb9, hP, hD, hS, hl⟩ := hI
    refine lv_iload_n hx hb dX6_learnStamps_10 rfl (lv_at hl 3 rfl) ?_
    refine lv_iconst (v := 2) hx hb dX6_learnStamps_11 (by decide) ?_
    refine lv_icmp_ge (tgt := 90) hx hb dX6_learnStamps_12 (by decide) (fun c_2 => ?_) (fun c_2 => ?_)
    · have i_2 : 2 ≤ (nI b).toInt := Int32.le_iff_toInt_le.mp c_2
      obtain ⟨x_3, ex_3⟩ : ∃ y : Int32, y = (nI t) + 1 := ⟨_, rfl⟩
      refine lv_iinc (v := x_3) (lv' := [(2, .int x_3), (0, .ref h0), (1, .ref h1), (3, .int (nI b))]) hx hb dX6_learnStamps_90 hl (k := 2) rfl (by rw [ex_3]; rfl) (by decide) rfl (fun ls hl => ?_)
      refine lv_goto (tgt := 2) hx hb dX6_learnStamps_93 (by decide) ?_
      have hx9 : x_3 = nI (t + 1) := by rw [ex_3]; exact nI_1 t
      rw [hx9] at hl
      exact ih2 (t + 1, fb) _ _ _ (by show 16 - (t + 1) < 16 - t; omega) ⟨by omega, hP.sub [0, 1, 2] rfl, hD.sub [0, 1, 2] (by decide) rfl, hS, lv_sub hl [1, 2, 0] rfl⟩
    · have i_2 : (nI b).toInt < 2 := Int32.lt_iff_toInt_lt.mp (Int32.not_le.mp c_2)
      have hb1 : b < 2 := (Nat.not_le.mp (mt (fun h => (nI_leI (a := 2) (b := b) (by omega) (by omega)).mpr h) c_2))
      refine lv_iconst (v := 2) hx hb dX6_learnStamps_15 (by decide) ?_
      refine lv_iload_n hx hb dX6_learnStamps_16 rfl (lv_at hl 2 rfl) ?_
      refine lv_imul hx hb dX6_learnStamps_17 ?_
      refine lv_iload_n hx hb dX6_learnStamps_18 rfl (lv_at hl 3 rfl) ?_
      refine lv_iadd hx hb dX6_learnStamps_19 ?_
      refine lv_istore (lv' := [(4, .int ((2 * (nI t)) + (nI b))), (0, .ref h0), (1, .ref h1), (2, .int (nI t)), (3, .int (nI b))]) hx hb dX6_learnStamps_20 hl (by decide) rfl (fun ls hl => ?_)
      refine lv_aload_n hx hb dX6_learnStamps_22 rfl (lv_at hl 1 rfl) ?_
      refine va_get (D := (dC, dI)) (ci := 6) (v := .ref b5) (C := RX6) (T := TX6) (N := 12) hx hb hts i_c_X6_learnStamps_0_X6 hown hK hP 0 rfl rfl 5 (by decide) (hts (.fieldLink RX6 27 "OnePassport$Rules" "nextTrails" "[I") (List.mem_of_getElem? (i := 1) rfl)) (fun _ h9 => h9) rfl dX6_learnStamps_23 ?_
      refine lv_iload hx hb dX6_learnStamps_26 (lv_at hl 0 rfl) ?_
      refine lv_aload_n hx hb dX6_learnStamps_28 rfl (lv_at hl 1 rfl) ?_
      refine va_get (D := (dC, dI)) (ci := 6) (v := .ref b4) (C := RX6) (T := TX6) (N := 12) hx hb hts i_c_X6_learnStamps_0_X6 hown hK hP 0 rfl rfl 4 (by decide) (hts (.fieldLink RX6 24 "OnePassport$Rules" "trails" "[I") (List.mem_of_getElem? (i := 2) rfl)) (fun _ h9 => h9) rfl dX6_learnStamps_29 ?_
      refine lv_iload_n hx hb dX6_learnStamps_32 rfl (lv_at hl 3 rfl) ?_
      refine lv_iload_n hx hb dX6_learnStamps_33 rfl (lv_at hl 4 rfl) ?_
      have hPc := hP.sub (ws' := []) [] rfl
      have hDc := hD.sub (ws' := []) [] (by decide) rfl
      have hKc := hK.sub (tys' := []) [] rfl
      have hFc := va_free (wc := []) hD hS hA [] rfl
      refine va_calli (va_runS (As := [.int (nI t), .int (nI b)]) (rest := [.ref b4, .int ((2 * (nI t)) + (nI b)), .ref b5]) ⟨hx, hb, hml, hown, hts⟩ (c_X6_longer l dC dI t b ht15 hb1 H.size) (va_cwS 2 hts g_c_X6_learnStamps_0_0 rfl rfl rfl (by decide +kernel) ⟨Nat.le_of_ble_eq_true rfl, Nat.le_of_ble_eq_true rfl⟩) ⟨fun a U g mk q => by obtain ⟨q0, q1, qP, qK, qD⟩ := q; exact ⟨q0, q1, qP, va_K.moved (u := U) (U := U.calling g mk a) (Vm.Alike.refl U.vm) qK, qD⟩, fun U hU hW => ⟨rfl, by rw [hU], by rw [hU]; exact hPc, va_K.moved hW.alike hKc, hDc.weaken (fun _ _ _ _ => trivial)⟩⟩ rfl rfl hl.1 rfl (lv_room (Nat.le_of_ble_eq_true rfl)) dX6_learnStamps_34 ⟨Nat.le_of_ble_eq_true rfl, Nat.le_of_ble_eq_true rfl⟩) hS (fun q _ h => hFc q h) hFc (fun r_4 u t H1 locs ht hvm hw hB hz1 hk1 hS => ?_)
      obtain ⟨hP1, hK1, hD1⟩ := hB
      rw [ht] at hP1
      try dsimp only at hw
      obtain ⟨hP, hD⟩ := va_join (wr := [(h0, .inr (6, [.ref b0, .ref b1, .ref b2, .ref b3, .ref b4, .ref b5, .ref b6, .int 0, .int 0, .int 0, .int 0, .int 0])), (b4, .inl (cI, 16, .inl (ff4))), (b5, .inl (cI, 32, .inl (fb)))]) (w1 := []) hP hD [] [0, 1, 2] rfl rfl (by decide) (by decide) hk1 hFc hP1 hD1
      clear hPc hDc hKc hFc hk1 hP1 hK1 hD1
      generalize H1 = H at hP hS ⊢
      have hP : va_P (dC, dI) vwCl [(h0, .inr (6, [.ref b0, .ref b1, .ref b2, .ref b3, .ref b4, .ref b5, .ref b6, .int 0, .int 0, .int 0, .int 0, .int 0])), (b4, .inl (cI, 16, .inl (ff4))), (b5, .inl (cI, 32, .inl (fb)))] H := hP
      have hD : va_D A [(h0, .inr (6, [.ref b0, .ref b1, .ref b2, .ref b3, .ref b4, .ref b5, .ref b6, .int 0, .int 0, .int 0, .int 0, .int 0])), (b4, .inl (cI, 16, .inl (ff4))), (b5, .inl (cI, 32, .inl (fb)))] := hD
      have hw_r_4 := hw
      obtain ⟨k_r_4, hk_r_4, ek_r_4⟩ := hw_r_4
      refine wx_ti (y := nI k_r_4) ek_r_4 ?_
      refine va_iald hx hb hK hP 1 0 rfl rfl (i := (nI k_r_4)) (vp_in_nI hk_r_4 (by decide)) dX6_learnStamps_37 ?_
      refine va_iast hx hb hK hP hD hS 2 0 rfl rfl (i := ((2 * (nI t)) + (nI b))) (x := ((ff4) ((nI k_r_4) : Int32).toNatClampNeg)) (by rw [show (2 * nI t + nI b : Int32) = nI (2 * t + b) from by rw [show (2 : Int32) = nI 2 from rfl, pk_mul, nI_add]]; exact vp_in_nI (by omega) (by decide)) dX6_learnStamps_38 (fun H locs hP hD hS => ?_)
      have hP : va_P (dC, dI) vwCl [(h0, .inr (6, [.ref b0, .ref b1, .ref b2, .ref b3, .ref b4, .ref b5, .ref b6, .int 0, .int 0, .int 0, .int 0, .int 0])), (b4, .inl (cI, 16, .inl (ff4))), (b5, .inl (cI, 32, .inl (upd (fb) (((2 * (nI t)) + (nI b)) : Int32).toNatClampNeg ((ff4) ((nI k_r_4) : Int32).toNatClampNeg))))] H := hP
      have hD : va_D A [(h0, .inr (6, [.ref b0, .ref b1, .ref b2, .ref b3, .ref b4, .ref b5, .ref b6, .int 0, .int 0, .int 0, .int 0, .int 0])), (b4, .inl (cI, 16, .inl (ff4))), (b5, .inl (cI, 32, .inl (upd (fb) (((2 * (nI t)) + (nI b)) : Int32).toNatClampNeg ((ff4) ((nI k_r_4) : Int32).toNatClampNeg))))] := hD
      refine lv_iconst (v := 0) hx hb dX6_learnStamps_39 (by decide) ?_
      refine lv_istore (lv' := [(5, .int 0), (4, .int ((2 * (nI t)) + (nI b))), (0, .ref h0), (1, .ref h1), (2, .int (nI t)), (3, .int (nI b))]) hx hb dX6_learnStamps_40 hl (by decide) rfl (fun ls hl => ?_)
      refine lv_iload hx hb dX6_learnStamps_42 (lv_at hl 0 rfl) ?_
      refine lv_aload_n hx hb dX6_learnStamps_44 rfl (lv_at hl 2 rfl) ?_
      refine va_get (D := (dC, dI)) (ci := 6) (v := .int 0) (C := RX6) (T := TX6) (N := 12) hx hb hts i_c_X6_learnStamps_0_X6 hown hK hP 0 rfl rfl 10 (by decide) (hts (.fieldLink RX6 55 "OnePassport$Rules" "posts" "I") (List.mem_of_getElem? (i := 7) rfl)) (fun _ h9 => h9) rfl dX6_learnStamps_45 ?_
      refine lv_icmp_ge (tgt := 84) hx hb dX6_learnStamps_48 (by decide) (fun c_5 => ?_) (fun c_5 => absurd (by decide) c_5)
      obtain ⟨x_6, ex_6⟩ : ∃ y : Int32, y = (nI b) + 1 := ⟨_, rfl⟩
      refine lv_iinc (v := x_6) (lv' := [(3, .int x_6), (5, .int 0), (4, .int ((2 * (nI t)) + (nI b))), (0, .ref h0), (1, .ref h1), (2, .int (nI t))]) hx hb dX6_learnStamps_84 hl (k := 5) rfl (by rw [ex_6]; rfl) (by decide) rfl (fun ls hl => ?_)
      refine lv_goto (tgt := 10) hx hb dX6_learnStamps_87 (by decide) ?_
      have hx9 : x_6 = nI (b + 1) := by rw [ex_6]; exact nI_1 b
      rw [hx9] at hl
      exact ih10 (b + 1, upd (fb) (((2 * (nI t)) + (nI b)) : Int32).toNatClampNeg ((ff4) ((nI k_r_4) : Int32).toNatClampNeg)) _ _ _ (by show 2 - (b + 1) < 2 - b; omega) ⟨by omega, hP.sub [0, 1, 2] rfl, hD.sub [0, 1, 2] (by decide) rfl, hS, lv_sub hl [3, 4, 5, 0] rfl⟩

theorem dX6_learn_0 : decode cX6_learn 0 = .ok (.aload_n 0, 1) := by decide +kernel
theorem dX6_learn_1 : decode cX6_learn 1 = .ok (.aload_n 1, 1) := by decide +kernel
theorem dX6_learn_2 : decode cX6_learn 2 = .ok (.invokevirtual 34, 3) := by decide +kernel
theorem dX6_learn_5 : decode cX6_learn 5 = .ok (.putfield 40, 3) := by decide +kernel
theorem dX6_learn_8 : decode cX6_learn 8 = .ok (.aload_n 0, 1) := by decide +kernel
theorem dX6_learn_9 : decode cX6_learn 9 = .ok (.aload_n 1, 1) := by decide +kernel
theorem dX6_learn_10 : decode cX6_learn 10 = .ok (.invokevirtual 43, 3) := by decide +kernel
theorem dX6_learn_13 : decode cX6_learn 13 = .ok (.putfield 46, 3) := by decide +kernel
theorem dX6_learn_16 : decode cX6_learn 16 = .ok (.aload_n 0, 1) := by decide +kernel
theorem dX6_learn_17 : decode cX6_learn 17 = .ok (.aload_n 1, 1) := by decide +kernel
theorem dX6_learn_18 : decode cX6_learn 18 = .ok (.getfield 48, 3) := by decide +kernel
theorem dX6_learn_21 : decode cX6_learn 21 = .ok (.putfield 51, 3) := by decide +kernel
theorem dX6_learn_24 : decode cX6_learn 24 = .ok (.aload_n 0, 1) := by decide +kernel
theorem dX6_learn_25 : decode cX6_learn 25 = .ok (.aload_n 1, 1) := by decide +kernel
theorem dX6_learn_26 : decode cX6_learn 26 = .ok (.getfield 52, 3) := by decide +kernel
theorem dX6_learn_29 : decode cX6_learn 29 = .ok (.putfield 55, 3) := by decide +kernel
theorem dX6_learn_32 : decode cX6_learn 32 = .ok (.aload_n 0, 1) := by decide +kernel
theorem dX6_learn_33 : decode cX6_learn 33 = .ok (.aload_n 1, 1) := by decide +kernel
theorem dX6_learn_34 : decode cX6_learn 34 = .ok (.getfield 56, 3) := by decide +kernel
theorem dX6_learn_37 : decode cX6_learn 37 = .ok (.iconst 1, 1) := by decide +kernel
theorem dX6_learn_38 : decode cX6_learn 38 = .ok (.if_icmp .ne 7, 3) := by decide +kernel
theorem dX6_learn_45 : decode cX6_learn 45 = .ok (.iconst 0, 1) := by decide +kernel
theorem dX6_learn_46 : decode cX6_learn 46 = .ok (.putfield 59, 3) := by decide +kernel
theorem dX6_learn_49 : decode cX6_learn 49 = .ok (.aload_n 0, 1) := by decide +kernel
theorem dX6_learn_50 : decode cX6_learn 50 = .ok (.getfield 18, 3) := by decide +kernel
theorem dX6_learn_53 : decode cX6_learn 53 = .ok (.iconst 0, 1) := by decide +kernel
theorem dX6_learn_54 : decode cX6_learn 54 = .ok (.invokestatic 62, 3) := by decide +kernel
theorem dX6_learn_57 : decode cX6_learn 57 = .ok (.aload_n 0, 1) := by decide +kernel
theorem dX6_learn_58 : decode cX6_learn 58 = .ok (.getfield 21, 3) := by decide +kernel
theorem dX6_learn_61 : decode cX6_learn 61 = .ok (.iconst 0, 1) := by decide +kernel
theorem dX6_learn_62 : decode cX6_learn 62 = .ok (.invokestatic 62, 3) := by decide +kernel
theorem dX6_learn_65 : decode cX6_learn 65 = .ok (.iconst 0, 1) := by decide +kernel
theorem dX6_learn_66 : decode cX6_learn 66 = .ok (.istore_n 3, 1) := by decide +kernel
theorem dX6_learn_67 : decode cX6_learn 67 = .ok (.iconst 0, 1) := by decide +kernel
theorem dX6_learn_68 : decode cX6_learn 68 = .ok (.istore 4, 2) := by decide +kernel
theorem dX6_learn_70 : decode cX6_learn 70 = .ok (.iload 4, 2) := by decide +kernel
theorem dX6_learn_72 : decode cX6_learn 72 = .ok (.aload_n 0, 1) := by decide +kernel
theorem dX6_learn_73 : decode cX6_learn 73 = .ok (.getfield 55, 3) := by decide +kernel
theorem dX6_learn_76 : decode cX6_learn 76 = .ok (.if_icmp .ge 92, 3) := by decide +kernel
theorem dX6_learn_168 : decode cX6_learn 168 = .ok (.iconst 0, 1) := by decide +kernel
theorem dX6_learn_169 : decode cX6_learn 169 = .ok (.istore 4, 2) := by decide +kernel
theorem dX6_learn_171 : decode cX6_learn 171 = .ok (.iload 4, 2) := by decide +kernel
theorem dX6_learn_173 : decode cX6_learn 173 = .ok (.bipush 16, 2) := by decide +kernel
theorem dX6_learn_175 : decode cX6_learn 175 = .ok (.if_icmp .ge 31, 3) := by decide +kernel
theorem dX6_learn_178 : decode cX6_learn 178 = .ok (.aload_n 0, 1) := by decide +kernel
theorem dX6_learn_179 : decode cX6_learn 179 = .ok (.getfield 24, 3) := by decide +kernel
theorem dX6_learn_182 : decode cX6_learn 182 = .ok (.iload 4, 2) := by decide +kernel
theorem dX6_learn_184 : decode cX6_learn 184 = .ok (.iload_n 2, 1) := by decide +kernel
theorem dX6_learn_185 : decode cX6_learn 185 = .ok (.ifCond .eq 12, 3) := by decide +kernel
theorem dX6_learn_188 : decode cX6_learn 188 = .ok (.iload 4, 2) := by decide +kernel
theorem dX6_learn_190 : decode cX6_learn 190 = .ok (.iload_n 3, 1) := by decide +kernel
theorem dX6_learn_191 : decode cX6_learn 191 = .ok (.invokestatic 83, 3) := by decide +kernel
theorem dX6_learn_194 : decode cX6_learn 194 = .ok (.goto 5, 3) := by decide +kernel
theorem dX6_learn_199 : decode cX6_learn 199 = .ok (.iastore, 1) := by decide +kernel
theorem dX6_learn_200 : decode cX6_learn 200 = .ok (.iinc 4 1, 3) := by decide +kernel
theorem dX6_learn_203 : decode cX6_learn 203 = .ok (.goto (-32), 3) := by decide +kernel
theorem dX6_learn_206 : decode cX6_learn 206 = .ok (.aload_n 0, 1) := by decide +kernel
theorem dX6_learn_207 : decode cX6_learn 207 = .ok (.aload_n 1, 1) := by decide +kernel
theorem dX6_learn_208 : decode cX6_learn 208 = .ok (.invokevirtual 86, 3) := by decide +kernel
theorem dX6_learn_211 : decode cX6_learn 211 = .ok (.return_, 1) := by decide +kernel
def w_c_X6_learn_0 : List Cond := .code yX6_learn cX6_learn 6 none :: ([.methodLink RX6 34 yX0_everyone, .instanceMethod yX0_everyone, .selects RX0 yX0_everyone yX0_everyone, .initialized RX0, .code yX0_everyone cX0_everyone 1 (some .int), .fieldLink RX0 43 "OnePassport$Family" "persons" "I", .fieldLink RX6 40 "OnePassport$Rules" "everyone" "I", .methodLink RX6 43 yX0_children, .instanceMethod yX0_children, .selects RX0 yX0_children yX0_children, .code yX0_children cX0_children 1 (some .int), .fieldLink RX0 18 "OnePassport$Family" "child" "[I", .methodLink RX0 85 yX0_bitsOf, .instanceMethod yX0_bitsOf, .selects RX0 yX0_bitsOf yX0_bitsOf, .code yX0_bitsOf cX0_bitsOf 4 (some .int), .fieldLink RX6 46 "OnePassport$Rules" "children" "I", .fieldLink RX6 48 "OnePassport$Family" "persons" "I", .fieldLink RX6 51 "OnePassport$Rules" "persons" "I", .fieldLink RX6 52 "OnePassport$Family" "posts" "I", .fieldLink RX6 55 "OnePassport$Rules" "posts" "I", .fieldLink RX6 56 "OnePassport$Family" "compare" "I", .fieldLink RX6 59 "OnePassport$Rules" "compare" "Z", .fieldLink RX6 18 "OnePassport$Rules" "behind" "[I", .methodLink RX6 62 yJ7_fill_53178, .static yJ7_fill_53178, .initialized RJ7, .code yJ7_fill_53178 cJ7_fill_53178 4 none, .fieldLink RX6 21 "OnePassport$Rules" "kept" "[I", .methodLink RX6 86 yX6_learnStamps, .instanceMethod yX6_learnStamps, .selects RX6 yX6_learnStamps yX6_learnStamps, .initialized RX6, .code yX6_learnStamps cX6_learnStamps 6 none, .fieldLink RX6 27 "OnePassport$Rules" "nextTrails" "[I", .fieldLink RX6 24 "OnePassport$Rules" "trails" "[I", .methodLink RX6 90 yX6_longer, .static yX6_longer, .code yX6_longer cX6_longer 3 (some .int), .methodLink RX6 83 yX6_mergedTrail, .static yX6_mergedTrail, .code yX6_mergedTrail cX6_mergedTrail 5 (some .int)] ++ wsX00 ++ wsX60)
theorem i_c_X6_learn_0_X0 : ∀ w ∈ wsX00, w ∈ w_c_X6_learn_0 := fun _ h => List.mem_cons_of_mem _ (List.mem_append_left _ (List.mem_append_right _ h))
theorem i_c_X6_learn_0_X6 : ∀ w ∈ wsX60, w ∈ w_c_X6_learn_0 := fun _ h => List.mem_cons_of_mem _ (List.mem_append_right _ h)
set_option maxRecDepth 100000 in
theorem g_c_X6_learn_0_0 : GoodIn w_c_X6_learn_0 (wsV RX6 34 RX0 yX0_everyone w_c_X0_everyone_0) := goodIn_of _ (by decide +kernel)
set_option maxRecDepth 100000 in
theorem g_c_X6_learn_0_1 : GoodIn w_c_X6_learn_0 (wsV RX6 43 RX0 yX0_children w_c_X0_children_0) := goodIn_of _ (by decide +kernel)
set_option maxRecDepth 100000 in
theorem g_c_X6_learn_0_2 : GoodIn w_c_X6_learn_0 (va_wsS RX6 62 yJ7_fill_53178 w_c_fillI) := goodIn_of _ (by decide +kernel)
set_option maxRecDepth 100000 in
theorem g_c_X6_learn_0_3 : GoodIn w_c_X6_learn_0 (wsV RX6 86 RX6 yX6_learnStamps w_c_X6_learnStamps_0) := goodIn_of _ (by decide +kernel)
set_option maxRecDepth 100000 in
theorem g_c_X6_learn_0_4 : GoodIn w_c_X6_learn_0 (va_wsS RX6 83 yX6_mergedTrail w_c_X6_mergedTrail_0) := goodIn_of _ (by decide +kernel)
set_option maxHeartbeats 4000000 in
set_option maxRecDepth 100000 in
theorem c_X6_learn_0 (l : Launch) (dC : Nat → ClassId) (dI : Nat → Nat → Nat) (cI : ClassId) (h0 : Nat) (h1 : Nat) (b0 : Nat) (b1 : Nat) (b2 : Nat) (b3 : Nat) (b4 : Nat) (b5 : Nat) (b6 : Nat) (f5 : Nat) (f6 : Nat) (f7 : Nat) (f8 : Nat) (f9 : Nat) (f10 : Nat) (f11 : Nat) (ff4 : Nat → Int32) (ff5 : Nat → Int32) (sz : Nat) : Met l yX6_learn w_c_X6_learn_0 ({ frames := 2, cells := 0, slots := 0, locals := 47 }) (va_Pc [.ref h0, .ref h1, .int 1] (fun U => U.heap.size = sz ∧ va_P (dC, dI) vwCl [(h0, .inr (6, [.ref b0, .ref b1, .ref b2, .ref b3, .ref b4, .ref b5, .ref b6, .int 0, .int 0, .int 0, .int 0, .int 0])), (h1, .inr (0, [.int 0, .int 0, .int 0, .int 0, .int 0, .ref f5, .ref f6, .ref f7, .ref f8, .ref f9, .ref f10, .ref f11])), (b2, .inl (cI, 16, .inl (fun _ => 0))), (b3, .inl (cI, 16, .inl (fun _ => 0))), (b4, .inl (cI, 16, .inl (ff4))), (b5, .inl (cI, 32, .inl (ff5)))] U.heap ∧ va_K (dC, dI) vwCl [(cI, .int)] U ∧ va_D (fun _ => True) [(h0, .inr (6, [.ref b0, .ref b1, .ref b2, .ref b3, .ref b4, .ref b5, .ref b6, .int 0, .int 0, .int 0, .int 0, .int 0])), (h1, .inr (0, [.int 0, .int 0, .int 0, .int 0, .int 0, .ref f5, .ref f6, .ref f7, .ref f8, .ref f9, .ref f10, .ref f11])), (b2, .inl (cI, 16, .inl (fun _ => 0))), (b3, .inl (cI, 16, .inl (fun _ => 0))), (b4, .inl (cI, 16, .inl (ff4))), (b5, .inl (cI, 32, .inl (ff5)))])) (va_Qv (fun _ : Unit => True) (fun (_ : Unit) (t : State) => ∃ (g4 : Nat → Int32), ∃ (g5 : Nat → Int32), va_P (dC, dI) vwCl [(h0, .inr (6, [.ref b0, .ref b1, .ref b2, .ref b3, .ref b4, .ref b5, .ref b6, .int 0, .int 0, .int 0, .int 0, .int 0])), (h1, .inr (0, [.int 0, .int 0, .int 0, .int 0, .int 0, .ref f5, .ref f6, .ref f7, .ref f8, .ref f9, .ref f10, .ref f11])), (b2, .inl (cI, 16, .inl (fun _ => 0))), (b3, .inl (cI, 16, .inl (fun _ => 0))), (b4, .inl (cI, 16, .inl (g4))), (b5, .inl (cI, 32, .inl (g5)))] t.heap ∧ va_K (dC, dI) vwCl [(cI, .int)] t ∧ va_D (va_A [(h0, .inr (6, [.ref b0, .ref b1, .ref b2, .ref b3, .ref b4, .ref b5, .ref b6, .int 0, .int 0, .int 0, .int 0, .int 0])), (h1, .inr (0, [.int 0, .int 0, .int 0, .int 0, .int 0, .ref f5, .ref f6, .ref f7, .ref f8, .ref f9, .ref f10, .ref f11])), (b2, .inl (cI, 16, .inl (fun _ => 0))), (b3, .inl (cI, 16, .inl (fun _ => 0))), (b4, .inl (cI, 16, .inl (ff4))), (b5, .inl (cI, 32, .inl (ff5)))] sz) [(h0, .inr (6, [.ref b0, .ref b1, .ref b2, .ref b3, .ref b4, .ref b5, .ref b6, .int 0, .int 0, .int 0, .int 0, .int 0])), (h1, .inr (0, [.int 0, .int 0, .int 0, .int 0, .int 0, .ref f5, .ref f6, .ref f7, .ref f8, .ref f9, .ref f10, .ref f11])), (b2, .inl (cI, 16, .inl (fun _ => 0))), (b3, .inl (cI, 16, .inl (fun _ => 0))), (b4, .inl (cI, 16, .inl (g4))), (b5, .inl (cI, 32, .inl (g5)))]) (va_A [(h0, .inr (6, [.ref b0, .ref b1, .ref b2, .ref b3, .ref b4, .ref b5, .ref b6, .int 0, .int 0, .int 0, .int 0, .int 0])), (h1, .inr (0, [.int 0, .int 0, .int 0, .int 0, .int 0, .ref f5, .ref f6, .ref f7, .ref f8, .ref f9, .ref f10, .ref f11])), (b2, .inl (cI, 16, .inl (fun _ => 0))), (b3, .inl (cI, 16, .inl (fun _ => 0))), (b4, .inl (cI, 16, .inl (ff4))), (b5, .inl (cI, 32, .inl (ff5)))] sz)) 0 0 (va_A [(h0, .inr (6, [.ref b0, .ref b1, .ref b2, .ref b3, .ref b4, .ref b5, .ref b6, .int 0, .int 0, .int 0, .int 0, .int 0])), (h1, .inr (0, [.int 0, .int 0, .int 0, .int 0, .int 0, .ref f5, .ref f6, .ref f7, .ref f8, .ref f9, .ref f10, .ref f11])), (b2, .inl (cI, 16, .inl (fun _ => 0))), (b3, .inl (cI, 16, .inl (fun _ => 0))), (b4, .inl (cI, 16, .inl (ff4))), (b5, .inl (cI, 32, .inl (ff5)))] sz) := by
  refine Met.ofW (cc := cX6_learn) (maxL := 6) (ret := none) (by decide) rfl ?_
  intro p e s m args below meth c s₁ B hml hv
  obtain ⟨rfl, hsz, hP, hK, hD0⟩ := hv
  have hx := B.exec
  have hb := B.bytes
  have hr := B.returns
  have hts := atoms_spec (ws := w_c_X6_learn_0) B.pre
  have hown : s.vm.findClass RX6 = some m.cls := findClass_of_methodNamed B.named
  have hlocks := B.notSynchronized
  subst hsz
  have hD := hD0.self (sz := s.heap.size)
  generalize hAe : va_A [(h0, .inr (6, [.ref b0, .ref b1, .ref b2, .ref b3, .ref b4, .ref b5, .ref b6, .int 0, .int 0, .int 0, .int 0, .int 0])), (h1, .inr (0, [.int 0, .int 0, .int 0, .int 0, .int 0, .ref f5, .ref f6, .ref f7, .ref f8, .ref f9, .ref f10, .ref f11])), (b2, .inl (cI, 16, .inl (fun _ => 0))), (b3, .inl (cI, 16, .inl (fun _ => 0))), (b4, .inl (cI, 16, .inl (ff4))), (b5, .inl (cI, 32, .inl (ff5)))] s.heap.size = A at hD ⊢
  have hA : ∀ q : Nat, s.heap.size ≤ q → A q := fun q h => by rw [← hAe]; exact Or.inr h
  have hS : va_S A s.heap s.heap [] := va_S.rf
  have hP : va_P (dC, dI) vwCl [(h0, .inr (6, [.ref b0, .ref b1, .ref b2, .ref b3, .ref b4, .ref b5, .ref b6, .int 0, .int 0, .int 0, .int 0, .int 0])), (h1, .inr (0, [.int 0, .int 0, .int 0, .int 0, .int 0, .ref f5, .ref f6, .ref f7, .ref f8, .ref f9, .ref f10, .ref f11])), (b2, .inl (cI, 16, .inl (fun _ => 0))), (b3, .inl (cI, 16, .inl (fun _ => 0))), (b4, .inl (cI, 16, .inl (ff4))), (b5, .inl (cI, 32, .inl (ff5)))] s.heap := hP
  have hl := lv_entry ([.ref h0, .ref h1, .int 1]) (n := 6) (Nat.le_of_ble_eq_true rfl)
  rw [lg_entry_eq]
  generalize (lg_sl ([.ref h0, .ref h1, .int 1]) ++ List.replicate (6 - (lg_sl ([.ref h0, .ref h1, .int 1])).length) Slot.unset).toArray = ls at hl ⊢
  have hl : lv_has ls 6 [(0, .ref h0), (1, .ref h1), (2, .int 1)] := hl
  refine lv_aload_n hx hb dX6_learn_0 rfl (lv_at hl 0 rfl) ?_
  refine lv_aload_n hx hb dX6_learn_1 rfl (lv_at hl 1 rfl) ?_
  have hPc := hP.sub (ws' := [(h1, .inr (0, [.int 0, .int 0, .int 0, .int 0, .int 0, .ref f5, .ref f6, .ref f7, .ref f8, .ref f9, .ref f10, .ref f11]))]) [1] rfl
  have hDc := hD.sub (ws' := [(h1, .inr (0, [.int 0, .int 0, .int 0, .int 0, .int 0, .ref f5, .ref f6, .ref f7, .ref f8, .ref f9, .ref f10, .ref f11]))]) [1] (by decide) rfl
  have hKc := hK.sub (tys' := []) [] rfl
  have hFc := va_free (wc := [(h1, .inr (0, [.int 0, .int 0, .int 0, .int 0, .int 0, .ref f5, .ref f6, .ref f7, .ref f8, .ref f9, .ref f10, .ref f11]))]) hD hS hA [1] rfl
  refine va_calli (va_runV (As := []) (rest := [.ref h0]) ⟨hx, hb, hml, hown, hts⟩ (c_X0_everyone_0 l dC dI h1 f5 f6 f7 f8 f9 f10 f11 s.heap.size) (cwV 0 hts g_c_X6_learn_0_0 rfl rfl rfl (by decide +kernel) ⟨Nat.le_of_ble_eq_true rfl, Nat.le_of_ble_eq_true rfl⟩) ⟨fun a U g mk q => by obtain ⟨q0, q1, qP, qK, qD⟩ := q; exact ⟨q0, q1, qP, va_K.moved (u := U) (U := U.calling g mk a) (Vm.Alike.refl U.vm) qK, qD⟩, va_recv hKc hPc (ci := 0) (q0 := 0) rfl rfl, fun U hU hW => ⟨rfl, by rw [hU], by rw [hU]; exact hPc, va_K.moved hW.alike hKc, hDc.weaken (fun _ _ _ _ => trivial)⟩⟩ rfl rfl hl.1 rfl (lv_room (Nat.le_of_ble_eq_true rfl)) dX6_learn_2 ⟨Nat.le_of_ble_eq_true rfl, Nat.le_of_ble_eq_true rfl⟩) hS (fun q _ h => hFc q h) hFc (fun r_1 u t H1 locs ht hvm hw hB hz1 hk1 hS => ?_)
  obtain ⟨hP1, hK1, hD1⟩ := hB
  rw [ht] at hP1
  try dsimp only at hw
  obtain ⟨hP, hD⟩ := va_join (wr := [(h0, .inr (6, [.ref b0, .ref b1, .ref b2, .ref b3, .ref b4, .ref b5, .ref b6, .int 0, .int 0, .int 0, .int 0, .int 0])), (b2, .inl (cI, 16, .inl (fun _ => 0))), (b3, .inl (cI, 16, .inl (fun _ => 0))), (b4, .inl (cI, 16, .inl (ff4))), (b5, .inl (cI, 32, .inl (ff5)))]) (w1 := [(h1, .inr (0, [.int 0, .int 0, .int 0, .int 0, .int 0, .ref f5, .ref f6, .ref f7, .ref f8, .ref f9, .ref f10, .ref f11]))]) hP hD [1] [0, 2, 3, 4, 5] rfl rfl (by decide) (by decide) hk1 hFc hP1 hD1
  clear hPc hDc hKc hFc hk1 hP1 hK1 hD1
  generalize H1 = H at hP hS ⊢
  have hP : va_P (dC, dI) vwCl [(h0, .inr (6, [.ref b0, .ref b1, .ref b2, .ref b3, .ref b4, .ref b5, .ref b6, .int 0, .int 0, .int 0, .int 0, .int 0])), (b2, .inl (cI, 16, .inl (fun _ => 0))), (b3, .inl (cI, 16, .inl (fun _ => 0))), (b4, .inl (cI, 16, .inl (ff4))), (b5, .inl (cI, 32, .inl (ff5))), (h1, .inr (0, [.int 0, .int 0, .int 0, .int 0, .int 0, .ref f5, .ref f6, .ref f7, .ref f8, .ref f9, .ref f10, .ref f11]))] H := hP
  have hD : va_D A [(h0, .inr (6, [.ref b0, .ref b1, .ref b2, .ref b3, .ref b4, .ref b5, .ref b6, .int 0, .int 0, .int 0, .int 0, .int 0])), (b2, .inl (cI, 16, .inl (fun _ => 0))), (b3, .inl (cI, 16, .inl (fun _ => 0))), (b4, .inl (cI, 16, .inl (ff4))), (b5, .inl (cI, 32, .inl (ff5))), (h1, .inr (0, [.int 0, .int 0, .int 0, .int 0, .int 0, .ref f5, .ref f6, .ref f7, .ref f8, .ref f9, .ref f10, .ref f11]))] := hD
  have er_1 : r_1 = 0 := hw
  refine wx_ti (y := 0) er_1 ?_
  refine va_put (D := (dC, dI)) (ci := 6) (v := .int 0) (ty := .int) (C := RX6) (T := TX6) (N := 12) hx hb hts i_c_X6_learn_0_X6 tyX6 tyX6_ok nmX6 hown hK hP hD hS 0 rfl rfl 7 (by decide) (hts (.fieldLink RX6 40 "OnePassport$Rules" "everyone" "I") (List.mem_of_getElem? (i := 7) rfl)) (fun _ h9 => h9) rfl (by decide +kernel) rfl rfl (Nat.le_of_ble_eq_true rfl) dX6_learn_5 (fun H locs hP hD hS => ?_)
  have hP : va_P (dC, dI) vwCl [(h0, .inr (6, [.ref b0, .ref b1, .ref b2, .ref b3, .ref b4, .ref b5, .ref b6, .int 0, .int 0, .int 0, .int 0, .int 0])), (b2, .inl (cI, 16, .inl (fun _ => 0))), (b3, .inl (cI, 16, .inl (fun _ => 0))), (b4, .inl (cI, 16, .inl (ff4))), (b5, .inl (cI, 32, .inl (ff5))), (h1, .inr (0, [.int 0, .int 0, .int 0, .int 0, .int 0, .ref f5, .ref f6, .ref f7, .ref f8, .ref f9, .ref f10, .ref f11]))] H := hP
  have hD : va_D A [(h0, .inr (6, [.ref b0, .ref b1, .ref b2, .ref b3, .ref b4, .ref b5, .ref b6, .int 0, .int 0, .int 0, .int 0, .int 0])), (b2, .inl (cI, 16, .inl (fun _ => 0))), (b3, .inl (cI, 16, .inl (fun _ => 0))), (b4, .inl (cI, 16, .inl (ff4))), (b5, .inl (cI, 32, .inl (ff5))), (h1, .inr (0, [.int 0, .int 0, .int 0, .int 0, .int 0, .ref f5, .ref f6, .ref f7, .ref f8, .ref f9, .ref f10, .ref f11]))] := hD
  refine lv_aload_n hx hb dX6_learn_8 rfl (lv_at hl 0 rfl) ?_
  refine lv_aload_n hx hb dX6_learn_9 rfl (lv_at hl 1 rfl) ?_
  have hPc := hP.sub (ws' := [(h1, .inr (0, [.int 0, .int 0, .int 0, .int 0, .int 0, .ref f5, .ref f6, .ref f7, .ref f8, .ref f9, .ref f10, .ref f11]))]) [5] rfl
  have hDc := hD.sub (ws' := [(h1, .inr (0, [.int 0, .int 0, .int 0, .int 0, .int 0, .ref f5, .ref f6, .ref f7, .ref f8, .ref f9, .ref f10, .ref f11]))]) [5] (by decide) rfl
  have hKc := hK.sub (tys' := []) [] rfl
  have hFc := va_free (wc := [(h1, .inr (0, [.int 0, .int 0, .int 0, .int 0, .int 0, .ref f5, .ref f6, .ref f7, .ref f8, .ref f9, .ref f10, .ref f11]))]) hD hS hA [5] rfl
  refine va_calli (va_runV (As := []) (rest := [.ref h0]) ⟨hx, hb, hml, hown, hts⟩ (c_X0_children_0 l dC dI h1 f5 f6 f7 f8 f9 f10 f11 H.size) (cwV 0 hts g_c_X6_learn_0_1 rfl rfl rfl (by decide +kernel) ⟨Nat.le_of_ble_eq_true rfl, Nat.le_of_ble_eq_true rfl⟩) ⟨fun a U g mk q => by obtain ⟨q0, q1, qP, qK, qD⟩ := q; exact ⟨q0, q1, qP, va_K.moved (u := U) (U := U.calling g mk a) (Vm.Alike.refl U.vm) qK, qD⟩, va_recv hKc hPc (ci := 0) (q0 := 0) rfl rfl, fun U hU hW => ⟨rfl, by rw [hU], by rw [hU]; exact hPc, va_K.moved hW.alike hKc, hDc.weaken (fun _ _ _ _ => trivial)⟩⟩ rfl rfl hl.1 rfl (lv_room (Nat.le_of_ble_eq_true rfl)) dX6_learn_10 ⟨Nat.le_of_ble_eq_true rfl, Nat.le_of_ble_eq_true rfl⟩) hS (fun q _ h => hFc q h) hFc (fun r_2 u t H1 locs ht hvm hw hB hz1 hk1 hS => ?_)
  obtain ⟨hP1, hK1, hD1⟩ := hB
  rw [ht] at hP1
  try dsimp only at hw
  obtain ⟨hP, hD⟩ := va_join (wr := [(h0, .inr (6, [.ref b0, .ref b1, .ref b2, .ref b3, .ref b4, .ref b5, .ref b6, .int 0, .int 0, .int 0, .int 0, .int 0])), (b2, .inl (cI, 16, .inl (fun _ => 0))), (b3, .inl (cI, 16, .inl (fun _ => 0))), (b4, .inl (cI, 16, .inl (ff4))), (b5, .inl (cI, 32, .inl (ff5)))]) (w1 := [(h1, .inr (0, [.int 0, .int 0, .int 0, .int 0, .int 0, .ref f5, .ref f6, .ref f7, .ref f8, .ref f9, .ref f10, .ref f11]))]) hP hD [5] [0, 1, 2, 3, 4] rfl rfl (by decide) (by decide) hk1 hFc hP1 hD1
  clear hPc hDc hKc hFc hk1 hP1 hK1 hD1
  generalize H1 = H at hP hS ⊢
  have hP : va_P (dC, dI) vwCl [(h0, .inr (6, [.ref b0, .ref b1, .ref b2, .ref b3, .ref b4, .ref b5, .ref b6, .int 0, .int 0, .int 0, .int 0, .int 0])), (b2, .inl (cI, 16, .inl (fun _ => 0))), (b3, .inl (cI, 16, .inl (fun _ => 0))), (b4, .inl (cI, 16, .inl (ff4))), (b5, .inl (cI, 32, .inl (ff5))), (h1, .inr (0, [.int 0, .int 0, .int 0, .int 0, .int 0, .ref f5, .ref f6, .ref f7, .ref f8, .ref f9, .ref f10, .ref f11]))] H := hP
  have hD : va_D A [(h0, .inr (6, [.ref b0, .ref b1, .ref b2, .ref b3, .ref b4, .ref b5, .ref b6, .int 0, .int 0, .int 0, .int 0, .int 0])), (b2, .inl (cI, 16, .inl (fun _ => 0))), (b3, .inl (cI, 16, .inl (fun _ => 0))), (b4, .inl (cI, 16, .inl (ff4))), (b5, .inl (cI, 32, .inl (ff5))), (h1, .inr (0, [.int 0, .int 0, .int 0, .int 0, .int 0, .ref f5, .ref f6, .ref f7, .ref f8, .ref f9, .ref f10, .ref f11]))] := hD
  have er_2 : r_2 = 0 := hw
  refine wx_ti (y := 0) er_2 ?_
  refine va_put (D := (dC, dI)) (ci := 6) (v := .int 0) (ty := .int) (C := RX6) (T := TX6) (N := 12) hx hb hts i_c_X6_learn_0_X6 tyX6 tyX6_ok nmX6 hown hK hP hD hS 0 rfl rfl 8 (by decide) (hts (.fieldLink RX6 46 "OnePassport$Rules" "children" "I") (List.mem_of_getElem? (i := 17) rfl)) (fun _ h9 => h9) rfl (by decide +kernel) rfl rfl (Nat.le_of_ble_eq_true rfl) dX6_learn_13 (fun H locs hP hD hS => ?_)
  have hP : va_P (dC, dI) vwCl [(h0, .inr (6, [.ref b0, .ref b1, .ref b2, .ref b3, .ref b4, .ref b5, .ref b6, .int 0, .int 0, .int 0, .int 0, .int 0])), (b2, .inl (cI, 16, .inl (fun _ => 0))), (b3, .inl (cI, 16, .inl (fun _ => 0))), (b4, .inl (cI, 16, .inl (ff4))), (b5, .inl (cI, 32, .inl (ff5))), (h1, .inr (0, [.int 0, .int 0, .int 0, .int 0, .int 0, .ref f5, .ref f6, .ref f7, .ref f8, .ref f9, .ref f10, .ref f11]))] H := hP
  have hD : va_D A [(h0, .inr (6, [.ref b0, .ref b1, .ref b2, .ref b3, .ref b4, .ref b5, .ref b6, .int 0, .int 0, .int 0, .int 0, .int 0])), (b2, .inl (cI, 16, .inl (fun _ => 0))), (b3, .inl (cI, 16, .inl (fun _ => 0))), (b4, .inl (cI, 16, .inl (ff4))), (b5, .inl (cI, 32, .inl (ff5))), (h1, .inr (0, [.int 0, .int 0, .int 0, .int 0, .int 0, .ref f5, .ref f6, .ref f7, .ref f8, .ref f9, .ref f10, .ref f11]))] := hD
  refine lv_aload_n hx hb dX6_learn_16 rfl (lv_at hl 0 rfl) ?_
  refine lv_aload_n hx hb dX6_learn_17 rfl (lv_at hl 1 rfl) ?_
  refine va_get (D := (dC, dI)) (ci := 0) (v := .int 0) (C := RX0) (T := TX0) (N := 12) hx hb hts i_c_X6_learn_0_X0 hown hK hP 5 rfl rfl 3 (by decide) (hts (.fieldLink RX6 48 "OnePassport$Family" "persons" "I") (List.mem_of_getElem? (i := 18) rfl)) (fun _ h9 => h9) rfl dX6_learn_18 ?_
  refine va_put (D := (dC, dI)) (ci := 6) (v := .int 0) (ty := .int) (C := RX6) (T := TX6) (N := 12) hx hb hts i_c_X6_learn_0_X6 tyX6 tyX6_ok nmX6 hown hK hP hD hS 0 rfl rfl 9 (by decide) (hts (.fieldLink RX6 51 "OnePassport$Rules" "persons" "I") (List.mem_of_getElem? (i := 19) rfl)) (fun _ h9 => h9) rfl (by decide +kernel) rfl rfl (Nat.le_of_ble_eq_true rfl) dX6_learn_21 (fun H locs hP hD hS => ?_)
  have hP : va_P (dC, dI) vwCl [(h0, .inr (6, [.ref b0, .ref b1, .ref b2, .ref b3, .ref b4, .ref b5, .ref b6, .int 0, .int 0, .int 0, .int 0, .int 0])), (b2, .inl (cI, 16, .inl (fun _ => 0))), (b3, .inl (cI, 16, .inl (fun _ => 0))), (b4, .inl (cI, 16, .inl (ff4))), (b5, .inl (cI, 32, .inl (ff5))), (h1, .inr (0, [.int 0, .int 0, .int 0, .int 0, .int 0, .ref f5, .ref f6, .ref f7, .ref f8, .ref f9, .ref f10, .ref f11]))] H := hP
  have hD : va_D A [(h0, .inr (6, [.ref b0, .ref b1, .ref b2, .ref b3, .ref b4, .ref b5, .ref b6, .int 0, .int 0, .int 0, .int 0, .int 0])), (b2, .inl (cI, 16, .inl (fun _ => 0))), (b3, .inl (cI, 16, .inl (fun _ => 0))), (b4, .inl (cI, 16, .inl (ff4))), (b5, .inl (cI, 32, .inl (ff5))), (h1, .inr (0, [.int 0, .int 0, .int 0, .int 0, .int 0, .ref f5, .ref f6, .ref f7, .ref f8, .ref f9, .ref f10, .ref f11]))] := hD
  refine lv_aload_n hx hb dX6_learn_24 rfl (lv_at hl 0 rfl) ?_
  refine lv_aload_n hx hb dX6_learn_25 rfl (lv_at hl 1 rfl) ?_
  refine va_get (D := (dC, dI)) (ci := 0) (v := .int 0) (C := RX0) (T := TX0) (N := 12) hx hb hts i_c_X6_learn_0_X0 hown hK hP 5 rfl rfl 4 (by decide) (hts (.fieldLink RX6 52 "OnePassport$Family" "posts" "I") (List.mem_of_getElem? (i := 20) rfl)) (fun _ h9 => h9) rfl dX6_learn_26 ?_
  refine va_put (D := (dC, dI)) (ci := 6) (v := .int 0) (ty := .int) (C := RX6) (T := TX6) (N := 12) hx hb hts i_c_X6_learn_0_X6 tyX6 tyX6_ok nmX6 hown hK hP hD hS 0 rfl rfl 10 (by decide) (hts (.fieldLink RX6 55 "OnePassport$Rules" "posts" "I") (List.mem_of_getElem? (i := 21) rfl)) (fun _ h9 => h9) rfl (by decide +kernel) rfl rfl (Nat.le_of_ble_eq_true rfl) dX6_learn_29 (fun H locs hP hD hS => ?_)
  have hP : va_P (dC, dI) vwCl [(h0, .inr (6, [.ref b0, .ref b1, .ref b2, .ref b3, .ref b4, .ref b5, .ref b6, .int 0, .int 0, .int 0, .int 0, .int 0])), (b2, .inl (cI, 16, .inl (fun _ => 0))), (b3, .inl (cI, 16, .inl (fun _ => 0))), (b4, .inl (cI, 16, .inl (ff4))), (b5, .inl (cI, 32, .inl (ff5))), (h1, .inr (0, [.int 0, .int 0, .int 0, .int 0, .int 0, .ref f5, .ref f6, .ref f7, .ref f8, .ref f9, .ref f10, .ref f11]))] H := hP
  have hD : va_D A [(h0, .inr (6, [.ref b0, .ref b1, .ref b2, .ref b3, .ref b4, .ref b5, .ref b6, .int 0, .int 0, .int 0, .int 0, .int 0])), (b2, .inl (cI, 16, .inl (fun _ => 0))), (b3, .inl (cI, 16, .inl (fun _ => 0))), (b4, .inl (cI, 16, .inl (ff4))), (b5, .inl (cI, 32, .inl (ff5))), (h1, .inr (0, [.int 0, .int 0, .int 0, .int 0, .int 0, .ref f5, .ref f6, .ref f7, .ref f8, .ref f9, .ref f10, .ref f11]))] := hD
  refine lv_aload_n hx hb dX6_learn_32 rfl (lv_at hl 0 rfl) ?_
  refine lv_aload_n hx hb dX6_learn_33 rfl (lv_at hl 1 rfl) ?_
  refine va_get (D := (dC, dI)) (ci := 0) (v := .int 0) (C := RX0) (T := TX0) (N := 12) hx hb hts i_c_X6_learn_0_X0 hown hK hP 5 rfl rfl 2 (by decide) (hts (.fieldLink RX6 56 "OnePassport$Family" "compare" "I") (List.mem_of_getElem? (i := 22) rfl)) (fun _ h9 => h9) rfl dX6_learn_34 ?_
  refine lv_iconst (v := 1) hx hb dX6_learn_37 (by decide) ?_
  refine lv_icmp_ne (tgt := 45) hx hb dX6_learn_38 (by decide) (fun c_3 => ?_) (fun c_3 => absurd c_3 (by decide))
  refine lv_iconst (v := 0) hx hb dX6_learn_45 (by decide) ?_
  refine va_put (D := (dC, dI)) (ci := 6) (v := .int 0) (ty := .boolean) (C := RX6) (T := TX6) (N := 12) hx hb hts i_c_X6_learn_0_X6 tyX6 tyX6_ok nmX6 hown hK hP hD hS 0 rfl rfl 11 (by decide) (hts (.fieldLink RX6 59 "OnePassport$Rules" "compare" "Z") (List.mem_of_getElem? (i := 23) rfl)) (fun _ h9 => h9) rfl (by decide +kernel) rfl rfl (Nat.le_of_ble_eq_true rfl) dX6_learn_46 (fun H locs hP hD hS => ?_)
  have hP : va_P (dC, dI) vwCl [(h0, .inr (6, [.ref b0, .ref b1, .ref b2, .ref b3, .ref b4, .ref b5, .ref b6, .int 0, .int 0, .int 0, .int 0, .int 0])), (b2, .inl (cI, 16, .inl (fun _ => 0))), (b3, .inl (cI, 16, .inl (fun _ => 0))), (b4, .inl (cI, 16, .inl (ff4))), (b5, .inl (cI, 32, .inl (ff5))), (h1, .inr (0, [.int 0, .int 0, .int 0, .int 0, .int 0, .ref f5, .ref f6, .ref f7, .ref f8, .ref f9, .ref f10, .ref f11]))] H := hP
  have hD : va_D A [(h0, .inr (6, [.ref b0, .ref b1, .ref b2, .ref b3, .ref b4, .ref b5, .ref b6, .int 0, .int 0, .int 0, .int 0, .int 0])), (b2, .inl (cI, 16, .inl (fun _ => 0))), (b3, .inl (cI, 16, .inl (fun _ => 0))), (b4, .inl (cI, 16, .inl (ff4))), (b5, .inl (cI, 32, .inl (ff5))), (h1, .inr (0, [.int 0, .int 0, .int 0, .int 0, .int 0, .ref f5, .ref f6, .ref f7, .ref f8, .ref f9, .ref f10, .ref f11]))] := hD
  refine lv_aload_n hx hb dX6_learn_49 rfl (lv_at hl 0 rfl) ?_
  refine va_get (D := (dC, dI)) (ci := 6) (v := .ref b2) (C := RX6) (T := TX6) (N := 12) hx hb hts i_c_X6_learn_0_X6 hown hK hP 0 rfl rfl 2 (by decide) (hts (.fieldLink RX6 18 "OnePassport$Rules" "behind" "[I") (List.mem_of_getElem? (i := 24) rfl)) (fun _ h9 => h9) rfl dX6_learn_50 ?_
  refine lv_iconst (v := 0) hx hb dX6_learn_53 (by decide) ?_
  have hPc := hP.sub (ws' := [(b2, .inl (cI, 16, .inl (fun _ => 0)))]) [1] rfl
  have hDc := hD.sub (ws' := [(b2, .inl (cI, 16, .inl (fun _ => 0)))]) [1] (by decide) rfl
  have hKc := hK.sub (tys' := [(cI, .int)]) [0] rfl
  have hFc := va_free (wc := [(b2, .inl (cI, 16, .inl (fun _ => 0)))]) hD hS hA [1] rfl
  refine va_callv (va_runS (As := [.ref b2, .int 0]) (rest := []) ⟨hx, hb, hml, hown, hts⟩ (c_fillI l dC dI cI b2 16 (fun _ => 0) 0 (by decide) H.size) (va_cwS 2 hts g_c_X6_learn_0_2 rfl rfl rfl (by decide +kernel) ⟨Nat.le_of_ble_eq_true rfl, Nat.le_of_ble_eq_true rfl⟩) ⟨fun a U g mk q => by obtain ⟨q0, q1, qP, qK, qD⟩ := q; exact ⟨q0, q1, qP, va_K.moved (u := U) (U := U.calling g mk a) (Vm.Alike.refl U.vm) qK, qD⟩, fun U hU hW => ⟨rfl, by rw [hU], by rw [hU]; exact hPc, va_K.moved hW.alike hKc, hDc.weaken (fun _ _ _ _ => trivial)⟩⟩ rfl rfl hl.1 rfl (lv_room (Nat.le_of_ble_eq_true rfl)) dX6_learn_54 ⟨Nat.le_of_ble_eq_true rfl, Nat.le_of_ble_eq_true rfl⟩) hS (fun q _ h => hFc q h) hFc (fun u t H1 locs ht hvm hw hB hz1 hk1 hS => ?_)
  obtain ⟨hP1, hK1, hD1⟩ := hB
  rw [ht] at hP1
  try dsimp only at hw
  obtain ⟨hP, hD⟩ := va_join (wr := [(h0, .inr (6, [.ref b0, .ref b1, .ref b2, .ref b3, .ref b4, .ref b5, .ref b6, .int 0, .int 0, .int 0, .int 0, .int 0])), (b3, .inl (cI, 16, .inl (fun _ => 0))), (b4, .inl (cI, 16, .inl (ff4))), (b5, .inl (cI, 32, .inl (ff5))), (h1, .inr (0, [.int 0, .int 0, .int 0, .int 0, .int 0, .ref f5, .ref f6, .ref f7, .ref f8, .ref f9, .ref f10, .ref f11]))]) (w1 := [(b2, .inl (cI, 16, .inl (fun _ => 0)))]) hP hD [1] [0, 2, 3, 4, 5] rfl rfl (by decide) (by decide) hk1 hFc hP1 hD1
  clear hPc hDc hKc hFc hk1 hP1 hK1 hD1
  generalize H1 = H at hP hS ⊢
  have hP : va_P (dC, dI) vwCl [(h0, .inr (6, [.ref b0, .ref b1, .ref b2, .ref b3, .ref b4, .ref b5, .ref b6, .int 0, .int 0, .int 0, .int 0, .int 0])), (b3, .inl (cI, 16, .inl (fun _ => 0))), (b4, .inl (cI, 16, .inl (ff4))), (b5, .inl (cI, 32, .inl (ff5))), (h1, .inr (0, [.int 0, .int 0, .int 0, .int 0, .int 0, .ref f5, .ref f6, .ref f7, .ref f8, .ref f9, .ref f10, .ref f11])), (b2, .inl (cI, 16, .inl (fun _ => 0)))] H := hP
  have hD : va_D A [(h0, .inr (6, [.ref b0, .ref b1, .ref b2, .ref b3, .ref b4, .ref b5, .ref b6, .int 0, .int 0, .int 0, .int 0, .int 0])), (b3, .inl (cI, 16, .inl (fun _ => 0))), (b4, .inl (cI, 16, .inl (ff4))), (b5, .inl (cI, 32, .inl (ff5))), (h1, .inr (0, [.int 0, .int 0, .int 0, .int 0, .int 0, .ref f5, .ref f6, .ref f7, .ref f8, .ref f9, .ref f10, .ref f11])), (b2, .inl (cI, 16, .inl (fun _ => 0)))] := hD
  refine lv_aload_n hx hb dX6_learn_57 rfl (lv_at hl 0 rfl) ?_
  refine va_get (D := (dC, dI)) (ci := 6) (v := .ref b3) (C := RX6) (T := TX6) (N := 12) hx hb hts i_c_X6_learn_0_X6 hown hK hP 0 rfl rfl 3 (by decide) (hts (.fieldLink RX6 21 "OnePassport$Rules" "kept" "[I") (List.mem_of_getElem? (i := 29) rfl)) (fun _ h9 => h9) rfl dX6_learn_58 ?_
  refine lv_iconst (v := 0) hx hb dX6_learn_61 (by decide) ?_
  have hPc := hP.sub (ws' := [(b3, .inl (cI, 16, .inl (fun _ => 0)))]) [1] rfl
  have hDc := hD.sub (ws' := [(b3, .inl (cI, 16, .inl (fun _ => 0)))]) [1] (by decide) rfl
  have hKc := hK.sub (tys' := [(cI, .int)]) [0] rfl
  have hFc := va_free (wc := [(b3, .inl (cI, 16, .inl (fun _ => 0)))]) hD hS hA [1] rfl
  refine va_callv (va_runS (As := [.ref b3, .int 0]) (rest := []) ⟨hx, hb, hml, hown, hts⟩ (c_fillI l dC dI cI b3 16 (fun _ => 0) 0 (by decide) H.size) (va_cwS 2 hts g_c_X6_learn_0_2 rfl rfl rfl (by decide +kernel) ⟨Nat.le_of_ble_eq_true rfl, Nat.le_of_ble_eq_true rfl⟩) ⟨fun a U g mk q => by obtain ⟨q0, q1, qP, qK, qD⟩ := q; exact ⟨q0, q1, qP, va_K.moved (u := U) (U := U.calling g mk a) (Vm.Alike.refl U.vm) qK, qD⟩, fun U hU hW => ⟨rfl, by rw [hU], by rw [hU]; exact hPc, va_K.moved hW.alike hKc, hDc.weaken (fun _ _ _ _ => trivial)⟩⟩ rfl rfl hl.1 rfl (lv_room (Nat.le_of_ble_eq_true rfl)) dX6_learn_62 ⟨Nat.le_of_ble_eq_true rfl, Nat.le_of_ble_eq_true rfl⟩) hS (fun q _ h => hFc q h) hFc (fun u t H1 locs ht hvm hw hB hz1 hk1 hS => ?_)
  obtain ⟨hP1, hK1, hD1⟩ := hB
  rw [ht] at hP1
  try dsimp only at hw
  obtain ⟨hP, hD⟩ := va_join (wr := [(h0, .inr (6, [.ref b0, .ref b1, .ref b2, .ref b3, .ref b4, .ref b5, .ref b6, .int 0, .int 0, .int 0, .int 0, .int 0])), (b4, .inl (cI, 16, .inl (ff4))), (b5, .inl (cI, 32, .inl (ff5))), (h1, .inr (0, [.int 0, .int 0, .int 0, .int 0, .int 0, .ref f5, .ref f6, .ref f7, .ref f8, .ref f9, .ref f10, .ref f11])), (b2, .inl (cI, 16, .inl (fun _ => 0)))]) (w1 := [(b3, .inl (cI, 16, .inl (fun _ => 0)))]) hP hD [1] [0, 2, 3, 4, 5] rfl rfl (by decide) (by decide) hk1 hFc hP1 hD1
  clear hPc hDc hKc hFc hk1 hP1 hK1 hD1
  generalize H1 = H at hP hS ⊢
  have hP : va_P (dC, dI) vwCl [(h0, .inr (6, [.ref b0, .ref b1, .ref b2, .ref b3, .ref b4, .ref b5, .ref b6, .int 0, .int 0, .int 0, .int 0, .int 0])), (b4, .inl (cI, 16, .inl (ff4))), (b5, .inl (cI, 32, .inl (ff5))), (h1, .inr (0, [.int 0, .int 0, .int 0, .int 0, .int 0, .ref f5, .ref f6, .ref f7, .ref f8, .ref f9, .ref f10, .ref f11])), (b2, .inl (cI, 16, .inl (fun _ => 0))), (b3, .inl (cI, 16, .inl (fun _ => 0)))] H := hP
  have hD : va_D A [(h0, .inr (6, [.ref b0, .ref b1, .ref b2, .ref b3, .ref b4, .ref b5, .ref b6, .int 0, .int 0, .int 0, .int 0, .int 0])), (b4, .inl (cI, 16, .inl (ff4))), (b5, .inl (cI, 32, .inl (ff5))), (h1, .inr (0, [.int 0, .int 0, .int 0, .int 0, .int 0, .ref f5, .ref f6, .ref f7, .ref f8, .ref f9, .ref f10, .ref f11])), (b2, .inl (cI, 16, .inl (fun _ => 0))), (b3, .inl (cI, 16, .inl (fun _ => 0)))] := hD
  refine lv_iconst (v := 0) hx hb dX6_learn_65 (by decide) ?_
  refine lv_istore_n (lv' := [(3, .int 0), (0, .ref h0), (1, .ref h1), (2, .int 1)]) hx hb dX6_learn_66 rfl hl (by decide) rfl (fun ls hl => ?_)
  refine lv_iconst (v := 0) hx hb dX6_learn_67 (by decide) ?_
  refine lv_istore (lv' := [(4, .int 0), (3, .int 0), (0, .ref h0), (1, .ref h1), (2, .int 1)]) hx hb dX6_learn_68 hl (by decide) rfl (fun ls hl => ?_)
  refine lv_iload hx hb dX6_learn_70 (lv_at hl 0 rfl) ?_
  refine lv_aload_n hx hb dX6_learn_72 rfl (lv_at hl 2 rfl) ?_
  refine va_get (D := (dC, dI)) (ci := 6) (v := .int 0) (C := RX6) (T := TX6) (N := 12) hx hb hts i_c_X6_learn_0_X6 hown hK hP 0 rfl rfl 10 (by decide) (hts (.fieldLink RX6 55 "OnePassport$Rules" "posts" "I") (List.mem_of_getElem? (i := 21) rfl)) (fun _ h9 => h9) rfl dX6_learn_73 ?_
  refine lv_icmp_ge (tgt := 168) hx hb dX6_learn_76 (by decide) (fun c_6 => ?_) (fun c_6 => absurd (by decide) c_6)
  refine lv_iconst (v := 0) hx hb dX6_learn_168 (by decide) ?_
  refine lv_istore (lv' := [(4, .int 0), (3, .int 0), (0, .ref h0), (1, .ref h1), (2, .int 1)]) hx hb dX6_learn_169 hl (by decide) rfl (fun ls hl => ?_)
  refine wx_loopM (σ := Nat × (Nat → Int32)) (fun x => 16 - (x.1)) (fun x H locs ls => (x.1) ≤ 16 ∧ va_P (dC, dI) vwCl [(h0, .inr (6, [.ref b0, .ref b1, .ref b2, .ref b3, .ref b4, .ref b5, .ref b6, .int 0, .int 0, .int 0, .int 0, .int 0])), (b4, .inl (cI, 16, .inl ((x.2)))), (b5, .inl (cI, 32, .inl (ff5))), (h1, .inr (0, [.int 0, .int 0, .int 0, .int 0, .int 0, .ref f5, .ref f6, .ref f7, .ref f8, .ref f9, .ref f10, .ref f11])), (b2, .inl (cI, 16, .inl (fun _ => 0))), (b3, .inl (cI, 16, .inl (fun _ => 0)))] H ∧ va_D A [(h0, .inr (6, [.ref b0, .ref b1, .ref b2, .ref b3, .ref b4, .ref b5, .ref b6, .int 0, .int 0, .int 0, .int 0, .int 0])), (b4, .inl (cI, 16, .inl ((x.2)))), (b5, .inl (cI, 32, .inl (ff5))), (h1, .inr (0, [.int 0, .int 0, .int 0, .int 0, .int 0, .ref f5, .ref f6, .ref f7, .ref f8, .ref f9, .ref f10, .ref f11])), (b2, .inl (cI, 16, .inl (fun _ => 0))), (b3, .inl (cI, 16, .inl (fun _ => 0)))] ∧ va_S A s.heap H locs ∧ lv_has ls 6 [(0, .ref h0), (1, .ref h1), (2, .int 1), (3, .int 0), (4, .int (nI (x.1)))]) (0, ff4) ⟨by decide, hP, hD, hS, lv_sub hl [2, 3, 4, 1, 0] rfl⟩ (fun x H locs ls hI ih171 => ?_)
  obtain ⟨t, ft⟩ := x
  dsimp only at hI ih171
  obtain ⟨ht, hP, hD, hS, hl⟩ := hI
  refine lv_iload hx hb dX6_learn_171 (lv_at hl 4 rfl) ?_
  refine lv_bipush (v := 16) hx hb dX6_learn_173 (by decide) ?_
  refine lv_icmp_ge (tgt := 206) hx hb dX6_learn_175 (by decide) (fun c_7 => ?_) (fun c_7 => ?_)
  · have i_7 : 16 ≤ (nI t).toInt := Int32.le_iff_toInt_le.mp c_7
    refine lv_aload_n hx hb dX6_learn_206 rfl (lv_at hl 0 rfl) ?_
    refine lv_aload_n hx hb dX6_learn_207 rfl (lv_at hl 1 rfl) ?_
    have hPc := hP.sub (ws' := [(h0, .inr (6, [.ref b0, .ref b1, .ref b2, .ref b3, .ref b4, .ref b5, .ref b6, .int 0, .int 0, .int 0, .int 0, .int 0])), (b4, .inl (cI, 16, .inl (ft))), (b5, .inl (cI, 32, .inl (ff5)))]) [0, 1, 2] rfl
    have hDc := hD.sub (ws' := [(h0, .inr (6, [.ref b0, .ref b1, .ref b2, .ref b3, .ref b4, .ref b5, .ref b6, .int 0, .int 0, .int 0, .int 0, .int 0])), (b4, .inl (cI, 16, .inl (ft))), (b5, .inl (cI, 32, .inl (ff5)))]) [0, 1, 2] (by decide) rfl
    have hKc := hK.sub (tys' := [(cI, .int)]) [0] rfl
    have hFc := va_free (wc := [(h0, .inr (6, [.ref b0, .ref b1, .ref b2, .ref b3, .ref b4, .ref b5, .ref b6, .int 0, .int 0, .int 0, .int 0, .int 0])), (b4, .inl (cI, 16, .inl (ft))), (b5, .inl (cI, 32, .inl (ff5)))]) hD hS hA [0, 1, 2] rfl
    refine va_callv (va_runV (As := [.ref h1]) (rest := []) ⟨hx, hb, hml, hown, hts⟩ (c_X6_learnStamps_0 l dC dI cI h0 h1 b0 b1 b2 b3 b4 b5 b6 ft ff5 H.size) (cwV 1 hts g_c_X6_learn_0_3 rfl rfl rfl (by decide +kernel) ⟨Nat.le_of_ble_eq_true rfl, Nat.le_of_ble_eq_true rfl⟩) ⟨fun a U g mk q => by obtain ⟨q0, q1, qP, qK, qD⟩ := q; exact ⟨q0, q1, qP, va_K.moved (u := U) (U := U.calling g mk a) (Vm.Alike.refl U.vm) qK, qD⟩, va_recv hKc hPc (ci := 6) (q0 := 0) rfl rfl, fun U hU hW => ⟨rfl, by rw [hU], by rw [hU]; exact hPc, va_K.moved hW.alike hKc, hDc.weaken (fun _ _ _ _ => trivial)⟩⟩ rfl rfl hl.1 rfl (lv_room (Nat.le_of_ble_eq_true rfl)) dX6_learn_208 ⟨Nat.le_of_ble_eq_true rfl, Nat.le_of_ble_eq_true rfl⟩) hS (fun q _ h => hFc q h) hFc (fun u t H1 locs ht hvm hw hB hz1 hk1 hS => ?_)
    obtain ⟨g_8, hP1, hK1, hD1⟩ := hB
    rw [ht] at hP1
    try dsimp only at hw
    obtain ⟨hP, hD⟩ := va_join (wr := [(h1, .inr (0, [.int 0, .int 0, .int 0, .int 0, .int 0, .ref f5, .ref f6, .ref f7, .ref f8, .ref f9, .ref f10, .ref f11])), (b2, .inl (cI, 16, .inl (fun _ => 0))), (b3, .inl (cI, 16, .inl (fun _ => 0)))]) (w1 := [(h0, .inr (6, [.ref b0, .ref b1, .ref b2, .ref b3, .ref b4, .ref b5, .ref b6, .int 0, .int 0, .int 0, .int 0, .int 0])), (b4, .inl (cI, 16, .inl (ft))), (b5, .inl (cI, 32, .inl (g_8)))]) hP hD [0, 1, 2] [3, 4, 5] rfl rfl (by decide) (by decide) hk1 hFc hP1 hD1
    clear hPc hDc hKc hFc hk1 hP1 hK1 hD1
    generalize H1 = H at hP hS ⊢
    have hP : va_P (dC, dI) vwCl [(h1, .inr (0, [.int 0, .int 0, .int 0, .int 0, .int 0, .ref f5, .ref f6, .ref f7, .ref f8, .ref f9, .ref f10, .ref f11])), (b2, .inl (cI, 16, .inl (fun _ => 0))), (b3, .inl (cI, 16, .inl (fun _ => 0))), (h0, .inr (6, [.ref b0, .ref b1, .ref b2, .ref b3, .ref b4, .ref b5, .ref b6, .int 0, .int 0, .int 0, .int 0, .int 0])), (b4, .inl (cI, 16, .inl (ft))), (b5, .inl (cI, 32, .inl (g_8)))] H := hP
    have hD : va_D A [(h1, .inr (0, [.int 0, .int 0, .int 0, .int 0, .int 0, .ref f5, .ref f6, .ref f7, .ref f8, .ref f9, .ref f10, .ref f11])), (b2, .inl (cI, 16, .inl (fun _ => 0))), (b3, .inl (cI, 16, .inl (fun _ => 0))), (h0, .inr (6, [.ref b0, .ref b1, .ref b2, .ref b3, .ref b4, .ref b5, .ref b6, .int 0, .int 0, .int 0, .int 0, .int 0])), (b4, .inl (cI, 16, .inl (ft))), (b5, .inl (cI, 32, .inl (g_8)))] := hD
    have hP9 := hP.sub (ws' := [(h0, .inr (6, [.ref b0, .ref b1, .ref b2, .ref b3, .ref b4, .ref b5, .ref b6, .int 0, .int 0, .int 0, .int 0, .int 0])), (h1, .inr (0, [.int 0, .int 0, .int 0, .int 0, .int 0, .ref f5, .ref f6, .ref f7, .ref f8, .ref f9, .ref f10, .ref f11])), (b2, .inl (cI, 16, .inl (fun _ => 0))), (b3, .inl (cI, 16, .inl (fun _ => 0))), (b4, .inl (cI, 16, .inl (ft))), (b5, .inl (cI, 32, .inl (g_8)))]) [3, 0, 1, 2, 4, 5] rfl
    have hD9 := hD.sub (ws' := [(h0, .inr (6, [.ref b0, .ref b1, .ref b2, .ref b3, .ref b4, .ref b5, .ref b6, .int 0, .int 0, .int 0, .int 0, .int 0])), (h1, .inr (0, [.int 0, .int 0, .int 0, .int 0, .int 0, .ref f5, .ref f6, .ref f7, .ref f8, .ref f9, .ref f10, .ref f11])), (b2, .inl (cI, 16, .inl (fun _ => 0))), (b3, .inl (cI, 16, .inl (fun _ => 0))), (b4, .inl (cI, 16, .inl (ft))), (b5, .inl (cI, 32, .inl (g_8)))]) [3, 0, 1, 2, 4, 5] (by decide) rfl
    exact W.vret hx hb hr (fun t ht hW => ⟨⟨(), rfl, trivial, ft, g_8, by rw [ht]; exact hP9, va_K.moved hW.alike hK, hD9⟩, hS.F ht⟩) hS.2.2 dX6_learn_211
  · have i_7 : (nI t).toInt < 16 := Int32.lt_iff_toInt_lt.mp (Int32.not_le.mp c_7)
    refine lv_aload_n hx hb dX6_learn_178 rfl (lv_at hl 0 rfl) ?_
    refine va_get (D := (dC, dI)) (ci := 6) (v := .ref b4) (C := RX6) (T := TX6) (N := 12) hx hb hts i_c_X6_learn_0_X6 hown hK hP 0 rfl rfl 4 (by decide) (hts (.fieldLink RX6 24 "OnePassport$Rules" "trails" "[I") (List.mem_of_getElem? (i := 36) rfl)) (fun _ h9 => h9) rfl dX6_learn_179 ?_
    refine lv_iload hx hb dX6_learn_182 (lv_at hl 4 rfl) ?_
    refine lv_iload_n hx hb dX6_learn_184 rfl (lv_at hl 2 rfl) ?_
    refine lv_if_eq (tgt := 197) hx hb dX6_learn_185 (by decide) (fun c_10 => absurd c_10 (by decide)) (fun c_10 => ?_)
    refine lv_iload hx hb dX6_learn_188 (lv_at hl 4 rfl) ?_
    refine lv_iload_n hx hb dX6_learn_190 rfl (lv_at hl 3 rfl) ?_
    have hPc := hP.sub (ws' := []) [] rfl
    have hDc := hD.sub (ws' := []) [] (by decide) rfl
    have hKc := hK.sub (tys' := []) [] rfl
    have hFc := va_free (wc := []) hD hS hA [] rfl
    refine va_calli (va_runS (As := [.int (nI t), .int 0]) (rest := [.int (nI t), .ref b4]) ⟨hx, hb, hml, hown, hts⟩ (c_X6_mergedTrail_0 l dC dI (nI t) H.size) (va_cwS 2 hts g_c_X6_learn_0_4 rfl rfl rfl (by decide +kernel) ⟨Nat.le_of_ble_eq_true rfl, Nat.le_of_ble_eq_true rfl⟩) ⟨fun a U g mk q => by obtain ⟨q0, q1, qP, qK, qD⟩ := q; exact ⟨q0, q1, qP, va_K.moved (u := U) (U := U.calling g mk a) (Vm.Alike.refl U.vm) qK, qD⟩, fun U hU hW => ⟨rfl, by rw [hU], by rw [hU]; exact hPc, va_K.moved hW.alike hKc, hDc.weaken (fun _ _ _ _ => trivial)⟩⟩ rfl rfl hl.1 rfl (lv_room (Nat.le_of_ble_eq_true rfl)) dX6_learn_191 ⟨Nat.le_of_ble_eq_true rfl, Nat.le_of_ble_eq_true rfl⟩) hS (fun q _ h => hFc q h) hFc (fun r_11 u t H1 locs ht hvm hw hB hz1 hk1 hS => ?_)
    obtain ⟨hP1, hK1, hD1⟩ := hB
    rw [ht] at hP1
    try dsimp only at hw
    obtain ⟨hP, hD⟩ := va_join (wr := [(h0, .inr (6, [.ref b0, .ref b1, .ref b2, .ref b3, .ref b4, .ref b5, .ref b6, .int 0, .int 0, .int 0, .int 0, .int 0])), (b4, .inl (cI, 16, .inl (ft))), (b5, .inl (cI, 32, .inl (ff5))), (h1, .inr (0, [.int 0, .int 0, .int 0, .int 0, .int 0, .ref f5, .ref f6, .ref f7, .ref f8, .ref f9, .ref f10, .ref f11])), (b2, .inl (cI, 16, .inl (fun _ => 0))), (b3, .inl (cI, 16, .inl (fun _ => 0)))]) (w1 := []) hP hD [] [0, 1, 2, 3, 4, 5] rfl rfl (by decide) (by decide) hk1 hFc hP1 hD1
    clear hPc hDc hKc hFc hk1 hP1 hK1 hD1
    generalize H1 = H at hP hS ⊢
    have hP : va_P (dC, dI) vwCl [(h0, .inr (6, [.ref b0, .ref b1, .ref b2, .ref b3, .ref b4, .ref b5, .ref b6, .int 0, .int 0, .int 0, .int 0, .int 0])), (b4, .inl (cI, 16, .inl (ft))), (b5, .inl (cI, 32, .inl (ff5))), (h1, .inr (0, [.int 0, .int 0, .int 0, .int 0, .int 0, .ref f5, .ref f6, .ref f7, .ref f8, .ref f9, .ref f10, .ref f11])), (b2, .inl (cI, 16, .inl (fun _ => 0))), (b3, .inl (cI, 16, .inl (fun _ => 0)))] H := hP
    have hD : va_D A [(h0, .inr (6, [.ref b0, .ref b1, .ref b2, .ref b3, .ref b4, .ref b5, .ref b6, .int 0, .int 0, .int 0, .int 0, .int 0])), (b4, .inl (cI, 16, .inl (ft))), (b5, .inl (cI, 32, .inl (ff5))), (h1, .inr (0, [.int 0, .int 0, .int 0, .int 0, .int 0, .ref f5, .ref f6, .ref f7, .ref f8, .ref f9, .ref f10, .ref f11])), (b2, .inl (cI, 16, .inl (fun _ => 0))), (b3, .inl (cI, 16, .inl (fun _ => 0)))] := hD
    have er_11 : r_11 = 1 := hw
    refine wx_ti (y := 1) er_11 ?_
    refine lv_goto (tgt := 199) hx hb dX6_learn_194 (by decide) ?_
    refine va_iast hx hb hK hP hD hS 1 0 rfl rfl (i := (nI t)) (x := 1) (vp_in_nI (Nat.not_le.mp (mt (fun h => (nI_leI (a := 16) (b := t) (by omega) (by omega)).mpr h) c_7)) (by decide)) dX6_learn_199 (fun H locs hP hD hS => ?_)
    have hP : va_P (dC, dI) vwCl [(h0, .inr (6, [.ref b0, .ref b1, .ref b2, .ref b3, .ref b4, .ref b5, .ref b6, .int 0, .int 0, .int 0, .int 0, .int 0])), (b4, .inl (cI, 16, .inl (upd (ft) ((nI t) : Int32).toNatClampNeg 1))), (b5, .inl (cI, 32, .inl (ff5))), (h1, .inr (0, [.int 0, .int 0, .int 0, .int 0, .int 0, .ref f5, .ref f6, .ref f7, .ref f8, .ref f9, .ref f10, .ref f11])), (b2, .inl (cI, 16, .inl (fun _ => 0))), (b3, .inl (cI, 16, .inl (fun _ => 0)))] H := hP
    have hD : va_D A [(h0, .inr (6, [.ref b0, .ref b1, .ref b2, .ref b3, .ref b4, .ref b5, .ref b6, .int 0, .int 0, .int 0, .int 0, .int 0])), (b4, .inl (cI, 16, .inl (upd (ft) ((nI t) : Int32).toNatClampNeg 1))), (b5, .inl (cI, 32, .inl (ff5))), (h1, .inr (0, [.int 0, .int 0, .int 0, .int 0, .int 0, .ref f5, .ref f6, .ref f7, .ref f8, .ref f9, .ref f10, .ref f11])), (b2, .inl (cI, 16, .inl (fun _ => 0))), (b3, .inl (cI, 16, .inl (fun _ => 0)))] := hD
    obtain ⟨x_12, ex_12⟩ : ∃ y : Int32, y = (nI t) + 1 := ⟨_, rfl⟩
    refine lv_iinc (v := x_12) (lv' := [(4, .int x_12), (0, .ref h0), (1, .ref h1), (2, .int 1), (3, .int 0)]) hx hb dX6_learn_200 hl (k := 4) rfl (by rw [ex_12]; rfl) (by decide) rfl (fun ls hl => ?_)
    refine lv_goto (tgt := 171) hx hb dX6_learn_203 (by decide) ?_
    have hx9 : x_12 = nI (t + 1) := by rw [ex_12]; exact nI_1 t
    rw [hx9] at hl
    exact ih171 (t + 1, upd (ft) ((nI t) : Int32).toNatClampNeg 1) _ _ _ (by show 16 - (t + 1) < 16 - t; omega) ⟨by omega, hP.sub [0, 1, 2, 3, 4, 5] rfl, hD.sub [0, 1, 2, 3, 4, 5] (by decide) rfl, hS, lv_sub hl [1, 2, 3, 4, 0] rfl⟩

theorem dX7_forgetRisks_0 : decode cX7_forgetRisks 0 = .ok (.aload_n 0, 1) := by decide +kernel
theorem dX7_forgetRisks_1 : decode cX7_forgetRisks 1 = .ok (.getfield 20, 3) := by decide +kernel
theorem dX7_forgetRisks_4 : decode cX7_forgetRisks 4 = .ok (.iconst 0, 1) := by decide +kernel
theorem dX7_forgetRisks_5 : decode cX7_forgetRisks 5 = .ok (.putfield 101, 3) := by decide +kernel
theorem dX7_forgetRisks_8 : decode cX7_forgetRisks 8 = .ok (.return_, 1) := by decide +kernel
def w_c_X7_forgetRisks_0 : List Cond := .code yX7_forgetRisks cX7_forgetRisks 1 none :: ([.fieldLink RX7 20 "OnePassport$Search" "safest" "LOnePassport$Measure;", .fieldLink RX7 101 "OnePassport$Measure" "ready" "Z"] ++ wsX70 ++ wsX40)
theorem i_c_X7_forgetRisks_0_X7 : ∀ w ∈ wsX70, w ∈ w_c_X7_forgetRisks_0 := fun _ h => List.mem_cons_of_mem _ (List.mem_append_left _ (List.mem_append_right _ h))
theorem i_c_X7_forgetRisks_0_X4 : ∀ w ∈ wsX40, w ∈ w_c_X7_forgetRisks_0 := fun _ h => List.mem_cons_of_mem _ (List.mem_append_right _ h)
set_option maxHeartbeats 4000000 in
set_option maxRecDepth 100000 in
theorem c_X7_forgetRisks_0 (l : Launch) (dC : Nat → ClassId) (dI : Nat → Nat → Nat) (h0 : Nat) (s0 : Nat) (s1 : Nat) (s2 : Nat) (s3 : Nat) (s4 : Nat) (s5 : Nat) (s6 : Nat) (s7 : Nat) (s8 : Nat) (s9 : Nat) (s10 : Nat) (s11 : Nat) (s12 : Nat) (fc : Nat) (fw : Nat) (sz : Nat) : Met l yX7_forgetRisks w_c_X7_forgetRisks_0 ({ frames := 0, cells := 0, slots := 0, locals := 0 }) (va_Pc [.ref h0] (fun U => U.heap.size = sz ∧ va_P (dC, dI) vwCl [(h0, .inr (7, [.ref s0, .ref s1, .ref s2, .ref s3, .ref s4, .ref s5, .ref s6, .ref s7, .ref s8, .ref s9, .ref s10, .ref s11, .ref s12, .int (-1), .int 0, .int (-1), .int (-1)])), (s1, .inr (4, [.ref fc, .ref fw, .int 0, .int 1]))] U.heap ∧ va_K (dC, dI) vwCl [] U ∧ va_D (fun _ => True) [(h0, .inr (7, [.ref s0, .ref s1, .ref s2, .ref s3, .ref s4, .ref s5, .ref s6, .ref s7, .ref s8, .ref s9, .ref s10, .ref s11, .ref s12, .int (-1), .int 0, .int (-1), .int (-1)])), (s1, .inr (4, [.ref fc, .ref fw, .int 0, .int 1]))])) (va_Qv (fun _ : Unit => True) (fun (_ : Unit) (t : State) => va_P (dC, dI) vwCl [(h0, .inr (7, [.ref s0, .ref s1, .ref s2, .ref s3, .ref s4, .ref s5, .ref s6, .ref s7, .ref s8, .ref s9, .ref s10, .ref s11, .ref s12, .int (-1), .int 0, .int (-1), .int (-1)])), (s1, .inr (4, [.ref fc, .ref fw, .int 0, .int 1]))] t.heap ∧ va_K (dC, dI) vwCl [] t ∧ va_D (va_A [(h0, .inr (7, [.ref s0, .ref s1, .ref s2, .ref s3, .ref s4, .ref s5, .ref s6, .ref s7, .ref s8, .ref s9, .ref s10, .ref s11, .ref s12, .int (-1), .int 0, .int (-1), .int (-1)])), (s1, .inr (4, [.ref fc, .ref fw, .int 0, .int 1]))] sz) [(h0, .inr (7, [.ref s0, .ref s1, .ref s2, .ref s3, .ref s4, .ref s5, .ref s6, .ref s7, .ref s8, .ref s9, .ref s10, .ref s11, .ref s12, .int (-1), .int 0, .int (-1), .int (-1)])), (s1, .inr (4, [.ref fc, .ref fw, .int 0, .int 1]))]) (va_A [(h0, .inr (7, [.ref s0, .ref s1, .ref s2, .ref s3, .ref s4, .ref s5, .ref s6, .ref s7, .ref s8, .ref s9, .ref s10, .ref s11, .ref s12, .int (-1), .int 0, .int (-1), .int (-1)])), (s1, .inr (4, [.ref fc, .ref fw, .int 0, .int 1]))] sz)) 0 0 (va_A [(h0, .inr (7, [.ref s0, .ref s1, .ref s2, .ref s3, .ref s4, .ref s5, .ref s6, .ref s7, .ref s8, .ref s9, .ref s10, .ref s11, .ref s12, .int (-1), .int 0, .int (-1), .int (-1)])), (s1, .inr (4, [.ref fc, .ref fw, .int 0, .int 1]))] sz) := by
  refine Met.ofW (cc := cX7_forgetRisks) (maxL := 1) (ret := none) (by decide) rfl ?_
  intro p e s m args below meth c s₁ B hml hv
  obtain ⟨rfl, hsz, hP, hK, hD0⟩ := hv
  have hx := B.exec
  have hb := B.bytes
  have hr := B.returns
  have hts := atoms_spec (ws := w_c_X7_forgetRisks_0) B.pre
  have hown : s.vm.findClass RX7 = some m.cls := findClass_of_methodNamed B.named
  have hlocks := B.notSynchronized
  subst hsz
  have hD := hD0.self (sz := s.heap.size)
  generalize hAe : va_A [(h0, .inr (7, [.ref s0, .ref s1, .ref s2, .ref s3, .ref s4, .ref s5, .ref s6, .ref s7, .ref s8, .ref s9, .ref s10, .ref s11, .ref s12, .int (-1), .int 0, .int (-1), .int (-1)])), (s1, .inr (4, [.ref fc, .ref fw, .int 0, .int 1]))] s.heap.size = A at hD ⊢
  have hA : ∀ q : Nat, s.heap.size ≤ q → A q := fun q h => by rw [← hAe]; exact Or.inr h
  have hS : va_S A s.heap s.heap [] := va_S.rf
  have hP : va_P (dC, dI) vwCl [(h0, .inr (7, [.ref s0, .ref s1, .ref s2, .ref s3, .ref s4, .ref s5, .ref s6, .ref s7, .ref s8, .ref s9, .ref s10, .ref s11, .ref s12, .int (-1), .int 0, .int (-1), .int (-1)])), (s1, .inr (4, [.ref fc, .ref fw, .int 0, .int 1]))] s.heap := hP
  have hl := lv_entry ([.ref h0]) (n := 1) (Nat.le_of_ble_eq_true rfl)
  rw [lg_entry_eq]
  generalize (lg_sl ([.ref h0]) ++ List.replicate (1 - (lg_sl ([.ref h0])).length) Slot.unset).toArray = ls at hl ⊢
  have hl : lv_has ls 1 [(0, .ref h0)] := hl
  refine lv_aload_n hx hb dX7_forgetRisks_0 rfl (lv_at hl 0 rfl) ?_
  refine va_get (D := (dC, dI)) (ci := 7) (v := .ref s1) (C := RX7) (T := TX7) (N := 17) hx hb hts i_c_X7_forgetRisks_0_X7 hown hK hP 0 rfl rfl 1 (by decide) (hts (.fieldLink RX7 20 "OnePassport$Search" "safest" "LOnePassport$Measure;") (List.mem_of_getElem? (i := 1) rfl)) (fun _ h9 => h9) rfl dX7_forgetRisks_1 ?_
  refine lv_iconst (v := 0) hx hb dX7_forgetRisks_4 (by decide) ?_
  refine va_put (D := (dC, dI)) (ci := 4) (v := .int 0) (ty := .boolean) (C := RX4) (T := TX4) (N := 4) hx hb hts i_c_X7_forgetRisks_0_X4 tyX4 tyX4_ok nmX4 hown hK hP hD hS 1 rfl rfl 2 (by decide) (hts (.fieldLink RX7 101 "OnePassport$Measure" "ready" "Z") (List.mem_of_getElem? (i := 2) rfl)) (fun _ h9 => h9) rfl (by decide +kernel) rfl rfl (Nat.le_of_ble_eq_true rfl) dX7_forgetRisks_5 (fun H locs hP hD hS => ?_)
  have hP : va_P (dC, dI) vwCl [(h0, .inr (7, [.ref s0, .ref s1, .ref s2, .ref s3, .ref s4, .ref s5, .ref s6, .ref s7, .ref s8, .ref s9, .ref s10, .ref s11, .ref s12, .int (-1), .int 0, .int (-1), .int (-1)])), (s1, .inr (4, [.ref fc, .ref fw, .int 0, .int 1]))] H := hP
  have hD : va_D A [(h0, .inr (7, [.ref s0, .ref s1, .ref s2, .ref s3, .ref s4, .ref s5, .ref s6, .ref s7, .ref s8, .ref s9, .ref s10, .ref s11, .ref s12, .int (-1), .int 0, .int (-1), .int (-1)])), (s1, .inr (4, [.ref fc, .ref fw, .int 0, .int 1]))] := hD
  have hP9 := hP.sub (ws' := [(h0, .inr (7, [.ref s0, .ref s1, .ref s2, .ref s3, .ref s4, .ref s5, .ref s6, .ref s7, .ref s8, .ref s9, .ref s10, .ref s11, .ref s12, .int (-1), .int 0, .int (-1), .int (-1)])), (s1, .inr (4, [.ref fc, .ref fw, .int 0, .int 1]))]) [0, 1] rfl
  have hD9 := hD.sub (ws' := [(h0, .inr (7, [.ref s0, .ref s1, .ref s2, .ref s3, .ref s4, .ref s5, .ref s6, .ref s7, .ref s8, .ref s9, .ref s10, .ref s11, .ref s12, .int (-1), .int 0, .int (-1), .int (-1)])), (s1, .inr (4, [.ref fc, .ref fw, .int 0, .int 1]))]) [0, 1] (by decide) rfl
  exact W.vret hx hb hr (fun t ht hW => ⟨⟨(), rfl, trivial, by rw [ht]; exact hP9, va_K.moved hW.alike hK, hD9⟩, hS.F ht⟩) hS.2.2 dX7_forgetRisks_8

theorem dX7_forgetGoal_0 : decode cX7_forgetGoal 0 = .ok (.aload_n 0, 1) := by decide +kernel
theorem dX7_forgetGoal_1 : decode cX7_forgetGoal 1 = .ok (.getfield 14, 3) := by decide +kernel
theorem dX7_forgetGoal_4 : decode cX7_forgetGoal 4 = .ok (.iconst 0, 1) := by decide +kernel
theorem dX7_forgetGoal_5 : decode cX7_forgetGoal 5 = .ok (.putfield 101, 3) := by decide +kernel
theorem dX7_forgetGoal_8 : decode cX7_forgetGoal 8 = .ok (.aload_n 0, 1) := by decide +kernel
theorem dX7_forgetGoal_9 : decode cX7_forgetGoal 9 = .ok (.getfield 23, 3) := by decide +kernel
theorem dX7_forgetGoal_12 : decode cX7_forgetGoal 12 = .ok (.iconst 0, 1) := by decide +kernel
theorem dX7_forgetGoal_13 : decode cX7_forgetGoal 13 = .ok (.putfield 101, 3) := by decide +kernel
theorem dX7_forgetGoal_16 : decode cX7_forgetGoal 16 = .ok (.aload_n 0, 1) := by decide +kernel
theorem dX7_forgetGoal_17 : decode cX7_forgetGoal 17 = .ok (.iconst (-1), 1) := by decide +kernel
theorem dX7_forgetGoal_18 : decode cX7_forgetGoal 18 = .ok (.putfield 80, 3) := by decide +kernel
theorem dX7_forgetGoal_21 : decode cX7_forgetGoal 21 = .ok (.aload_n 0, 1) := by decide +kernel
theorem dX7_forgetGoal_22 : decode cX7_forgetGoal 22 = .ok (.invokevirtual 104, 3) := by decide +kernel
theorem dX7_forgetGoal_25 : decode cX7_forgetGoal 25 = .ok (.return_, 1) := by decide +kernel
def w_c_X7_forgetGoal_0 : List Cond := .code yX7_forgetGoal cX7_forgetGoal 1 none :: ([.fieldLink RX7 14 "OnePassport$Search" "fewest" "LOnePassport$Measure;", .fieldLink RX7 101 "OnePassport$Measure" "ready" "Z", .fieldLink RX7 23 "OnePassport$Search" "leanest" "LOnePassport$Measure;", .fieldLink RX7 80 "OnePassport$Search" "hopefulCount" "I", .methodLink RX7 104 yX7_forgetRisks, .instanceMethod yX7_forgetRisks, .selects RX7 yX7_forgetRisks yX7_forgetRisks, .initialized RX7, .code yX7_forgetRisks cX7_forgetRisks 1 none, .fieldLink RX7 20 "OnePassport$Search" "safest" "LOnePassport$Measure;"] ++ wsX70 ++ wsX40)
theorem i_c_X7_forgetGoal_0_X7 : ∀ w ∈ wsX70, w ∈ w_c_X7_forgetGoal_0 := fun _ h => List.mem_cons_of_mem _ (List.mem_append_left _ (List.mem_append_right _ h))
theorem i_c_X7_forgetGoal_0_X4 : ∀ w ∈ wsX40, w ∈ w_c_X7_forgetGoal_0 := fun _ h => List.mem_cons_of_mem _ (List.mem_append_right _ h)
set_option maxRecDepth 100000 in
theorem g_c_X7_forgetGoal_0_0 : GoodIn w_c_X7_forgetGoal_0 (wsV RX7 104 RX7 yX7_forgetRisks w_c_X7_forgetRisks_0) := goodIn_of _ (by decide +kernel)
set_option maxHeartbeats 4000000 in
set_option maxRecDepth 100000 in
theorem c_X7_forgetGoal_0 (l : Launch) (dC : Nat → ClassId) (dI : Nat → Nat → Nat) (h0 : Nat) (s0 : Nat) (s1 : Nat) (s2 : Nat) (s3 : Nat) (s4 : Nat) (s5 : Nat) (s6 : Nat) (s7 : Nat) (s8 : Nat) (s9 : Nat) (s10 : Nat) (s11 : Nat) (s12 : Nat) (ec : Nat) (ew : Nat) (fc : Nat) (fw : Nat) (gc : Nat) (gw : Nat) (sz : Nat) : Met l yX7_forgetGoal w_c_X7_forgetGoal_0 ({ frames := 1, cells := 0, slots := 0, locals := 20 }) (va_Pc [.ref h0] (fun U => U.heap.size = sz ∧ va_P (dC, dI) vwCl [(h0, .inr (7, [.ref s0, .ref s1, .ref s2, .ref s3, .ref s4, .ref s5, .ref s6, .ref s7, .ref s8, .ref s9, .ref s10, .ref s11, .ref s12, .int (-1), .int 0, .int (-1), .int (-1)])), (s0, .inr (4, [.ref ec, .ref ew, .int 0, .int 0])), (s1, .inr (4, [.ref fc, .ref fw, .int 0, .int 1])), (s2, .inr (4, [.ref gc, .ref gw, .int 0, .int 2]))] U.heap ∧ va_K (dC, dI) vwCl [] U ∧ va_D (fun _ => True) [(h0, .inr (7, [.ref s0, .ref s1, .ref s2, .ref s3, .ref s4, .ref s5, .ref s6, .ref s7, .ref s8, .ref s9, .ref s10, .ref s11, .ref s12, .int (-1), .int 0, .int (-1), .int (-1)])), (s0, .inr (4, [.ref ec, .ref ew, .int 0, .int 0])), (s1, .inr (4, [.ref fc, .ref fw, .int 0, .int 1])), (s2, .inr (4, [.ref gc, .ref gw, .int 0, .int 2]))])) (va_Qv (fun _ : Unit => True) (fun (_ : Unit) (t : State) => va_P (dC, dI) vwCl [(h0, .inr (7, [.ref s0, .ref s1, .ref s2, .ref s3, .ref s4, .ref s5, .ref s6, .ref s7, .ref s8, .ref s9, .ref s10, .ref s11, .ref s12, .int (-1), .int 0, .int (-1), .int (-1)])), (s0, .inr (4, [.ref ec, .ref ew, .int 0, .int 0])), (s1, .inr (4, [.ref fc, .ref fw, .int 0, .int 1])), (s2, .inr (4, [.ref gc, .ref gw, .int 0, .int 2]))] t.heap ∧ va_K (dC, dI) vwCl [] t ∧ va_D (va_A [(h0, .inr (7, [.ref s0, .ref s1, .ref s2, .ref s3, .ref s4, .ref s5, .ref s6, .ref s7, .ref s8, .ref s9, .ref s10, .ref s11, .ref s12, .int (-1), .int 0, .int (-1), .int (-1)])), (s0, .inr (4, [.ref ec, .ref ew, .int 0, .int 0])), (s1, .inr (4, [.ref fc, .ref fw, .int 0, .int 1])), (s2, .inr (4, [.ref gc, .ref gw, .int 0, .int 2]))] sz) [(h0, .inr (7, [.ref s0, .ref s1, .ref s2, .ref s3, .ref s4, .ref s5, .ref s6, .ref s7, .ref s8, .ref s9, .ref s10, .ref s11, .ref s12, .int (-1), .int 0, .int (-1), .int (-1)])), (s0, .inr (4, [.ref ec, .ref ew, .int 0, .int 0])), (s1, .inr (4, [.ref fc, .ref fw, .int 0, .int 1])), (s2, .inr (4, [.ref gc, .ref gw, .int 0, .int 2]))]) (va_A [(h0, .inr (7, [.ref s0, .ref s1, .ref s2, .ref s3, .ref s4, .ref s5, .ref s6, .ref s7, .ref s8, .ref s9, .ref s10, .ref s11, .ref s12, .int (-1), .int 0, .int (-1), .int (-1)])), (s0, .inr (4, [.ref ec, .ref ew, .int 0, .int 0])), (s1, .inr (4, [.ref fc, .ref fw, .int 0, .int 1])), (s2, .inr (4, [.ref gc, .ref gw, .int 0, .int 2]))] sz)) 0 0 (va_A [(h0, .inr (7, [.ref s0, .ref s1, .ref s2, .ref s3, .ref s4, .ref s5, .ref s6, .ref s7, .ref s8, .ref s9, .ref s10, .ref s11, .ref s12, .int (-1), .int 0, .int (-1), .int (-1)])), (s0, .inr (4, [.ref ec, .ref ew, .int 0, .int 0])), (s1, .inr (4, [.ref fc, .ref fw, .int 0, .int 1])), (s2, .inr (4, [.ref gc, .ref gw, .int 0, .int 2]))] sz) := by
  refine Met.ofW (cc := cX7_forgetGoal) (maxL := 1) (ret := none) (by decide) rfl ?_
  intro p e s m args below meth c s₁ B hml hv
  obtain ⟨rfl, hsz, hP, hK, hD0⟩ := hv
  have hx := B.exec
  have hb := B.bytes
  have hr := B.returns
  have hts := atoms_spec (ws := w_c_X7_forgetGoal_0) B.pre
  have hown : s.vm.findClass RX7 = some m.cls := findClass_of_methodNamed B.named
  have hlocks := B.notSynchronized
  subst hsz
  have hD := hD0.self (sz := s.heap.size)
  generalize hAe : va_A [(h0, .inr (7, [.ref s0, .ref s1, .ref s2, .ref s3, .ref s4, .ref s5, .ref s6, .ref s7, .ref s8, .ref s9, .ref s10, .ref s11, .ref s12, .int (-1), .int 0, .int (-1), .int (-1)])), (s0, .inr (4, [.ref ec, .ref ew, .int 0, .int 0])), (s1, .inr (4, [.ref fc, .ref fw, .int 0, .int 1])), (s2, .inr (4, [.ref gc, .ref gw, .int 0, .int 2]))] s.heap.size = A at hD ⊢
  have hA : ∀ q : Nat, s.heap.size ≤ q → A q := fun q h => by rw [← hAe]; exact Or.inr h
  have hS : va_S A s.heap s.heap [] := va_S.rf
  have hP : va_P (dC, dI) vwCl [(h0, .inr (7, [.ref s0, .ref s1, .ref s2, .ref s3, .ref s4, .ref s5, .ref s6, .ref s7, .ref s8, .ref s9, .ref s10, .ref s11, .ref s12, .int (-1), .int 0, .int (-1), .int (-1)])), (s0, .inr (4, [.ref ec, .ref ew, .int 0, .int 0])), (s1, .inr (4, [.ref fc, .ref fw, .int 0, .int 1])), (s2, .inr (4, [.ref gc, .ref gw, .int 0, .int 2]))] s.heap := hP
  have hl := lv_entry ([.ref h0]) (n := 1) (Nat.le_of_ble_eq_true rfl)
  rw [lg_entry_eq]
  generalize (lg_sl ([.ref h0]) ++ List.replicate (1 - (lg_sl ([.ref h0])).length) Slot.unset).toArray = ls at hl ⊢
  have hl : lv_has ls 1 [(0, .ref h0)] := hl
  refine lv_aload_n hx hb dX7_forgetGoal_0 rfl (lv_at hl 0 rfl) ?_
  refine va_get (D := (dC, dI)) (ci := 7) (v := .ref s0) (C := RX7) (T := TX7) (N := 17) hx hb hts i_c_X7_forgetGoal_0_X7 hown hK hP 0 rfl rfl 0 (by decide) (hts (.fieldLink RX7 14 "OnePassport$Search" "fewest" "LOnePassport$Measure;") (List.mem_of_getElem? (i := 1) rfl)) (fun _ h9 => h9) rfl dX7_forgetGoal_1 ?_
  refine lv_iconst (v := 0) hx hb dX7_forgetGoal_4 (by decide) ?_
  refine va_put (D := (dC, dI)) (ci := 4) (v := .int 0) (ty := .boolean) (C := RX4) (T := TX4) (N := 4) hx hb hts i_c_X7_forgetGoal_0_X4 tyX4 tyX4_ok nmX4 hown hK hP hD hS 1 rfl rfl 2 (by decide) (hts (.fieldLink RX7 101 "OnePassport$Measure" "ready" "Z") (List.mem_of_getElem? (i := 2) rfl)) (fun _ h9 => h9) rfl (by decide +kernel) rfl rfl (Nat.le_of_ble_eq_true rfl) dX7_forgetGoal_5 (fun H locs hP hD hS => ?_)
  have hP : va_P (dC, dI) vwCl [(h0, .inr (7, [.ref s0, .ref s1, .ref s2, .ref s3, .ref s4, .ref s5, .ref s6, .ref s7, .ref s8, .ref s9, .ref s10, .ref s11, .ref s12, .int (-1), .int 0, .int (-1), .int (-1)])), (s0, .inr (4, [.ref ec, .ref ew, .int 0, .int 0])), (s1, .inr (4, [.ref fc, .ref fw, .int 0, .int 1])), (s2, .inr (4, [.ref gc, .ref gw, .int 0, .int 2]))] H := hP
  have hD : va_D A [(h0, .inr (7, [.ref s0, .ref s1, .ref s2, .ref s3, .ref s4, .ref s5, .ref s6, .ref s7, .ref s8, .ref s9, .ref s10, .ref s11, .ref s12, .int (-1), .int 0, .int (-1), .int (-1)])), (s0, .inr (4, [.ref ec, .ref ew, .int 0, .int 0])), (s1, .inr (4, [.ref fc, .ref fw, .int 0, .int 1])), (s2, .inr (4, [.ref gc, .ref gw, .int 0, .int 2]))] := hD
  refine lv_aload_n hx hb dX7_forgetGoal_8 rfl (lv_at hl 0 rfl) ?_
  refine va_get (D := (dC, dI)) (ci := 7) (v := .ref s2) (C := RX7) (T := TX7) (N := 17) hx hb hts i_c_X7_forgetGoal_0_X7 hown hK hP 0 rfl rfl 2 (by decide) (hts (.fieldLink RX7 23 "OnePassport$Search" "leanest" "LOnePassport$Measure;") (List.mem_of_getElem? (i := 3) rfl)) (fun _ h9 => h9) rfl dX7_forgetGoal_9 ?_
  refine lv_iconst (v := 0) hx hb dX7_forgetGoal_12 (by decide) ?_
  refine va_put (D := (dC, dI)) (ci := 4) (v := .int 0) (ty := .boolean) (C := RX4) (T := TX4) (N := 4) hx hb hts i_c_X7_forgetGoal_0_X4 tyX4 tyX4_ok nmX4 hown hK hP hD hS 3 rfl rfl 2 (by decide) (hts (.fieldLink RX7 101 "OnePassport$Measure" "ready" "Z") (List.mem_of_getElem? (i := 2) rfl)) (fun _ h9 => h9) rfl (by decide +kernel) rfl rfl (Nat.le_of_ble_eq_true rfl) dX7_forgetGoal_13 (fun H locs hP hD hS => ?_)
  have hP : va_P (dC, dI) vwCl [(h0, .inr (7, [.ref s0, .ref s1, .ref s2, .ref s3, .ref s4, .ref s5, .ref s6, .ref s7, .ref s8, .ref s9, .ref s10, .ref s11, .ref s12, .int (-1), .int 0, .int (-1), .int (-1)])), (s0, .inr (4, [.ref ec, .ref ew, .int 0, .int 0])), (s1, .inr (4, [.ref fc, .ref fw, .int 0, .int 1])), (s2, .inr (4, [.ref gc, .ref gw, .int 0, .int 2]))] H := hP
  have hD : va_D A [(h0, .inr (7, [.ref s0, .ref s1, .ref s2, .ref s3, .ref s4, .ref s5, .ref s6, .ref s7, .ref s8, .ref s9, .ref s10, .ref s11, .ref s12, .int (-1), .int 0, .int (-1), .int (-1)])), (s0, .inr (4, [.ref ec, .ref ew, .int 0, .int 0])), (s1, .inr (4, [.ref fc, .ref fw, .int 0, .int 1])), (s2, .inr (4, [.ref gc, .ref gw, .int 0, .int 2]))] := hD
  refine lv_aload_n hx hb dX7_forgetGoal_16 rfl (lv_at hl 0 rfl) ?_
  refine lv_iconst (v := (-1)) hx hb dX7_forgetGoal_17 (by decide) ?_
  refine va_put (D := (dC, dI)) (ci := 7) (v := .int (-1)) (ty := .int) (C := RX7) (T := TX7) (N := 17) hx hb hts i_c_X7_forgetGoal_0_X7 tyX7 tyX7_ok nmX7 hown hK hP hD hS 0 rfl rfl 16 (by decide) (hts (.fieldLink RX7 80 "OnePassport$Search" "hopefulCount" "I") (List.mem_of_getElem? (i := 4) rfl)) (fun _ h9 => h9) rfl (by decide +kernel) rfl rfl (Nat.le_of_ble_eq_true rfl) dX7_forgetGoal_18 (fun H locs hP hD hS => ?_)
  have hP : va_P (dC, dI) vwCl [(h0, .inr (7, [.ref s0, .ref s1, .ref s2, .ref s3, .ref s4, .ref s5, .ref s6, .ref s7, .ref s8, .ref s9, .ref s10, .ref s11, .ref s12, .int (-1), .int 0, .int (-1), .int (-1)])), (s0, .inr (4, [.ref ec, .ref ew, .int 0, .int 0])), (s1, .inr (4, [.ref fc, .ref fw, .int 0, .int 1])), (s2, .inr (4, [.ref gc, .ref gw, .int 0, .int 2]))] H := hP
  have hD : va_D A [(h0, .inr (7, [.ref s0, .ref s1, .ref s2, .ref s3, .ref s4, .ref s5, .ref s6, .ref s7, .ref s8, .ref s9, .ref s10, .ref s11, .ref s12, .int (-1), .int 0, .int (-1), .int (-1)])), (s0, .inr (4, [.ref ec, .ref ew, .int 0, .int 0])), (s1, .inr (4, [.ref fc, .ref fw, .int 0, .int 1])), (s2, .inr (4, [.ref gc, .ref gw, .int 0, .int 2]))] := hD
  refine lv_aload_n hx hb dX7_forgetGoal_21 rfl (lv_at hl 0 rfl) ?_
  have hPc := hP.sub (ws' := [(h0, .inr (7, [.ref s0, .ref s1, .ref s2, .ref s3, .ref s4, .ref s5, .ref s6, .ref s7, .ref s8, .ref s9, .ref s10, .ref s11, .ref s12, .int (-1), .int 0, .int (-1), .int (-1)])), (s1, .inr (4, [.ref fc, .ref fw, .int 0, .int 1]))]) [0, 2] rfl
  have hDc := hD.sub (ws' := [(h0, .inr (7, [.ref s0, .ref s1, .ref s2, .ref s3, .ref s4, .ref s5, .ref s6, .ref s7, .ref s8, .ref s9, .ref s10, .ref s11, .ref s12, .int (-1), .int 0, .int (-1), .int (-1)])), (s1, .inr (4, [.ref fc, .ref fw, .int 0, .int 1]))]) [0, 2] (by decide) rfl
  have hKc := hK.sub (tys' := []) [] rfl
  have hFc := va_free (wc := [(h0, .inr (7, [.ref s0, .ref s1, .ref s2, .ref s3, .ref s4, .ref s5, .ref s6, .ref s7, .ref s8, .ref s9, .ref s10, .ref s11, .ref s12, .int (-1), .int 0, .int (-1), .int (-1)])), (s1, .inr (4, [.ref fc, .ref fw, .int 0, .int 1]))]) hD hS hA [0, 2] rfl
  refine va_callv (va_runV (As := []) (rest := []) ⟨hx, hb, hml, hown, hts⟩ (c_X7_forgetRisks_0 l dC dI h0 s0 s1 s2 s3 s4 s5 s6 s7 s8 s9 s10 s11 s12 fc fw H.size) (cwV 0 hts g_c_X7_forgetGoal_0_0 rfl rfl rfl (by decide +kernel) ⟨Nat.le_of_ble_eq_true rfl, Nat.le_of_ble_eq_true rfl⟩) ⟨fun a U g mk q => by obtain ⟨q0, q1, qP, qK, qD⟩ := q; exact ⟨q0, q1, qP, va_K.moved (u := U) (U := U.calling g mk a) (Vm.Alike.refl U.vm) qK, qD⟩, va_recv hKc hPc (ci := 7) (q0 := 0) rfl rfl, fun U hU hW => ⟨rfl, by rw [hU], by rw [hU]; exact hPc, va_K.moved hW.alike hKc, hDc.weaken (fun _ _ _ _ => trivial)⟩⟩ rfl rfl hl.1 rfl (lv_room (Nat.le_of_ble_eq_true rfl)) dX7_forgetGoal_22 ⟨Nat.le_of_ble_eq_true rfl, Nat.le_of_ble_eq_true rfl⟩) hS (fun q _ h => hFc q h) hFc (fun u t H1 locs ht hvm hw hB hz1 hk1 hS => ?_)
  obtain ⟨hP1, hK1, hD1⟩ := hB
  rw [ht] at hP1
  try dsimp only at hw
  obtain ⟨hP, hD⟩ := va_join (wr := [(s0, .inr (4, [.ref ec, .ref ew, .int 0, .int 0])), (s2, .inr (4, [.ref gc, .ref gw, .int 0, .int 2]))]) (w1 := [(h0, .inr (7, [.ref s0, .ref s1, .ref s2, .ref s3, .ref s4, .ref s5, .ref s6, .ref s7, .ref s8, .ref s9, .ref s10, .ref s11, .ref s12, .int (-1), .int 0, .int (-1), .int (-1)])), (s1, .inr (4, [.ref fc, .ref fw, .int 0, .int 1]))]) hP hD [0, 2] [1, 3] rfl rfl (by decide) (by decide) hk1 hFc hP1 hD1
  clear hPc hDc hKc hFc hk1 hP1 hK1 hD1
  generalize H1 = H at hP hS ⊢
  have hP : va_P (dC, dI) vwCl [(s0, .inr (4, [.ref ec, .ref ew, .int 0, .int 0])), (s2, .inr (4, [.ref gc, .ref gw, .int 0, .int 2])), (h0, .inr (7, [.ref s0, .ref s1, .ref s2, .ref s3, .ref s4, .ref s5, .ref s6, .ref s7, .ref s8, .ref s9, .ref s10, .ref s11, .ref s12, .int (-1), .int 0, .int (-1), .int (-1)])), (s1, .inr (4, [.ref fc, .ref fw, .int 0, .int 1]))] H := hP
  have hD : va_D A [(s0, .inr (4, [.ref ec, .ref ew, .int 0, .int 0])), (s2, .inr (4, [.ref gc, .ref gw, .int 0, .int 2])), (h0, .inr (7, [.ref s0, .ref s1, .ref s2, .ref s3, .ref s4, .ref s5, .ref s6, .ref s7, .ref s8, .ref s9, .ref s10, .ref s11, .ref s12, .int (-1), .int 0, .int (-1), .int (-1)])), (s1, .inr (4, [.ref fc, .ref fw, .int 0, .int 1]))] := hD
  have hP9 := hP.sub (ws' := [(h0, .inr (7, [.ref s0, .ref s1, .ref s2, .ref s3, .ref s4, .ref s5, .ref s6, .ref s7, .ref s8, .ref s9, .ref s10, .ref s11, .ref s12, .int (-1), .int 0, .int (-1), .int (-1)])), (s0, .inr (4, [.ref ec, .ref ew, .int 0, .int 0])), (s1, .inr (4, [.ref fc, .ref fw, .int 0, .int 1])), (s2, .inr (4, [.ref gc, .ref gw, .int 0, .int 2]))]) [2, 0, 3, 1] rfl
  have hD9 := hD.sub (ws' := [(h0, .inr (7, [.ref s0, .ref s1, .ref s2, .ref s3, .ref s4, .ref s5, .ref s6, .ref s7, .ref s8, .ref s9, .ref s10, .ref s11, .ref s12, .int (-1), .int 0, .int (-1), .int (-1)])), (s0, .inr (4, [.ref ec, .ref ew, .int 0, .int 0])), (s1, .inr (4, [.ref fc, .ref fw, .int 0, .int 1])), (s2, .inr (4, [.ref gc, .ref gw, .int 0, .int 2]))]) [2, 0, 3, 1] (by decide) rfl
  exact W.vret hx hb hr (fun t ht hW => ⟨⟨(), rfl, trivial, by rw [ht]; exact hP9, va_K.moved hW.alike hK, hD9⟩, hS.F ht⟩) hS.2.2 dX7_forgetGoal_25

theorem dX7_beginFamily_0 : decode cX7_beginFamily 0 = .ok (.aload_n 0, 1) := by decide +kernel
theorem dX7_beginFamily_1 : decode cX7_beginFamily 1 = .ok (.getfield 39, 3) := by decide +kernel
theorem dX7_beginFamily_4 : decode cX7_beginFamily 4 = .ok (.aload_n 0, 1) := by decide +kernel
theorem dX7_beginFamily_5 : decode cX7_beginFamily 5 = .ok (.getfield 83, 3) := by decide +kernel
theorem dX7_beginFamily_8 : decode cX7_beginFamily 8 = .ok (.iconst 1, 1) := by decide +kernel
theorem dX7_beginFamily_9 : decode cX7_beginFamily 9 = .ok (.invokevirtual 90, 3) := by decide +kernel
theorem dX7_beginFamily_12 : decode cX7_beginFamily 12 = .ok (.aload_n 0, 1) := by decide +kernel
theorem dX7_beginFamily_13 : decode cX7_beginFamily 13 = .ok (.iconst 0, 1) := by decide +kernel
theorem dX7_beginFamily_14 : decode cX7_beginFamily 14 = .ok (.putfield 94, 3) := by decide +kernel
theorem dX7_beginFamily_17 : decode cX7_beginFamily 17 = .ok (.aload_n 0, 1) := by decide +kernel
theorem dX7_beginFamily_18 : decode cX7_beginFamily 18 = .ok (.iconst (-1), 1) := by decide +kernel
theorem dX7_beginFamily_19 : decode cX7_beginFamily 19 = .ok (.putfield 73, 3) := by decide +kernel
theorem dX7_beginFamily_22 : decode cX7_beginFamily 22 = .ok (.aload_n 0, 1) := by decide +kernel
theorem dX7_beginFamily_23 : decode cX7_beginFamily 23 = .ok (.iconst (-1), 1) := by decide +kernel
theorem dX7_beginFamily_24 : decode cX7_beginFamily 24 = .ok (.putfield 77, 3) := by decide +kernel
theorem dX7_beginFamily_27 : decode cX7_beginFamily 27 = .ok (.aload_n 0, 1) := by decide +kernel
theorem dX7_beginFamily_28 : decode cX7_beginFamily 28 = .ok (.invokevirtual 98, 3) := by decide +kernel
theorem dX7_beginFamily_31 : decode cX7_beginFamily 31 = .ok (.return_, 1) := by decide +kernel
def w_c_X7_beginFamily_0 : List Cond := .code yX7_beginFamily cX7_beginFamily 1 none :: ([.fieldLink RX7 39 "OnePassport$Search" "rules" "LOnePassport$Rules;", .fieldLink RX7 83 "OnePassport$Search" "family" "LOnePassport$Family;", .methodLink RX7 90 yX6_learn, .instanceMethod yX6_learn, .selects RX6 yX6_learn yX6_learn, .initialized RX6, .code yX6_learn cX6_learn 6 none, .methodLink RX6 34 yX0_everyone, .instanceMethod yX0_everyone, .selects RX0 yX0_everyone yX0_everyone, .initialized RX0, .code yX0_everyone cX0_everyone 1 (some .int), .fieldLink RX0 43 "OnePassport$Family" "persons" "I", .fieldLink RX6 40 "OnePassport$Rules" "everyone" "I", .methodLink RX6 43 yX0_children, .instanceMethod yX0_children, .selects RX0 yX0_children yX0_children, .code yX0_children cX0_children 1 (some .int), .fieldLink RX0 18 "OnePassport$Family" "child" "[I", .methodLink RX0 85 yX0_bitsOf, .instanceMethod yX0_bitsOf, .selects RX0 yX0_bitsOf yX0_bitsOf, .code yX0_bitsOf cX0_bitsOf 4 (some .int), .fieldLink RX6 46 "OnePassport$Rules" "children" "I", .fieldLink RX6 48 "OnePassport$Family" "persons" "I", .fieldLink RX6 51 "OnePassport$Rules" "persons" "I", .fieldLink RX6 52 "OnePassport$Family" "posts" "I", .fieldLink RX6 55 "OnePassport$Rules" "posts" "I", .fieldLink RX6 56 "OnePassport$Family" "compare" "I", .fieldLink RX6 59 "OnePassport$Rules" "compare" "Z", .fieldLink RX6 18 "OnePassport$Rules" "behind" "[I", .methodLink RX6 62 yJ7_fill_53178, .static yJ7_fill_53178, .initialized RJ7, .code yJ7_fill_53178 cJ7_fill_53178 4 none, .fieldLink RX6 21 "OnePassport$Rules" "kept" "[I", .methodLink RX6 86 yX6_learnStamps, .instanceMethod yX6_learnStamps, .selects RX6 yX6_learnStamps yX6_learnStamps, .code yX6_learnStamps cX6_learnStamps 6 none, .fieldLink RX6 27 "OnePassport$Rules" "nextTrails" "[I", .fieldLink RX6 24 "OnePassport$Rules" "trails" "[I", .methodLink RX6 90 yX6_longer, .static yX6_longer, .code yX6_longer cX6_longer 3 (some .int), .methodLink RX6 83 yX6_mergedTrail, .static yX6_mergedTrail, .code yX6_mergedTrail cX6_mergedTrail 5 (some .int), .fieldLink RX7 94 "OnePassport$Search" "graphBuilt" "Z", .fieldLink RX7 73 "OnePassport$Search" "soonestFrom" "I", .fieldLink RX7 77 "OnePassport$Search" "stateCount" "I", .methodLink RX7 98 yX7_forgetGoal, .instanceMethod yX7_forgetGoal, .selects RX7 yX7_forgetGoal yX7_forgetGoal, .initialized RX7, .code yX7_forgetGoal cX7_forgetGoal 1 none, .fieldLink RX7 14 "OnePassport$Search" "fewest" "LOnePassport$Measure;", .fieldLink RX7 101 "OnePassport$Measure" "ready" "Z", .fieldLink RX7 23 "OnePassport$Search" "leanest" "LOnePassport$Measure;", .fieldLink RX7 80 "OnePassport$Search" "hopefulCount" "I", .methodLink RX7 104 yX7_forgetRisks, .instanceMethod yX7_forgetRisks, .selects RX7 yX7_forgetRisks yX7_forgetRisks, .code yX7_forgetRisks cX7_forgetRisks 1 none, .fieldLink RX7 20 "OnePassport$Search" "safest" "LOnePassport$Measure;"] ++ wsX70 ++ wsX00 ++ wsX60 ++ wsX40)
theorem i_c_X7_beginFamily_0_X7 : ∀ w ∈ wsX70, w ∈ w_c_X7_beginFamily_0 := fun _ h => List.mem_cons_of_mem _ (List.mem_append_left _ (List.mem_append_left _ (List.mem_append_left _ (List.mem_append_right _ h))))
theorem i_c_X7_beginFamily_0_X0 : ∀ w ∈ wsX00, w ∈ w_c_X7_beginFamily_0 := fun _ h => List.mem_cons_of_mem _ (List.mem_append_left _ (List.mem_append_left _ (List.mem_append_right _ h)))
theorem i_c_X7_beginFamily_0_X6 : ∀ w ∈ wsX60, w ∈ w_c_X7_beginFamily_0 := fun _ h => List.mem_cons_of_mem _ (List.mem_append_left _ (List.mem_append_right _ h))
theorem i_c_X7_beginFamily_0_X4 : ∀ w ∈ wsX40, w ∈ w_c_X7_beginFamily_0 := fun _ h => List.mem_cons_of_mem _ (List.mem_append_right _ h)
set_option maxRecDepth 100000 in
theorem g_c_X7_beginFamily_0_0 : GoodIn w_c_X7_beginFamily_0 (wsV RX7 90 RX6 yX6_learn w_c_X6_learn_0) := goodIn_of _ (by decide +kernel)
set_option maxRecDepth 100000 in
theorem g_c_X7_beginFamily_0_1 : GoodIn w_c_X7_beginFamily_0 (wsV RX7 98 RX7 yX7_forgetGoal w_c_X7_forgetGoal_0) := goodIn_of _ (by decide +kernel)
set_option maxHeartbeats 4000000 in
set_option maxRecDepth 100000 in
theorem c_X7_beginFamily_0 (l : Launch) (dC : Nat → ClassId) (dI : Nat → Nat → Nat) (cI : ClassId) (h0 : Nat) (s0 : Nat) (s1 : Nat) (s2 : Nat) (s3 : Nat) (s4 : Nat) (s5 : Nat) (s6 : Nat) (s7 : Nat) (s8 : Nat) (s9 : Nat) (s10 : Nat) (s11 : Nat) (s12 : Nat) (ec : Nat) (ew : Nat) (fc : Nat) (fw : Nat) (gc : Nat) (gw : Nat) (f5 : Nat) (f6 : Nat) (f7 : Nat) (f8 : Nat) (f9 : Nat) (f10 : Nat) (f11 : Nat) (b0 : Nat) (b1 : Nat) (b2 : Nat) (b3 : Nat) (b4 : Nat) (b5 : Nat) (b6 : Nat) (ff4 : Nat → Int32) (ff5 : Nat → Int32) (sz : Nat) : Met l yX7_beginFamily w_c_X7_beginFamily_0 ({ frames := 3, cells := 0, slots := 0, locals := 72 }) (va_Pc [.ref h0] (fun U => U.heap.size = sz ∧ va_P (dC, dI) vwCl [(h0, .inr (7, [.ref s0, .ref s1, .ref s2, .ref s3, .ref s4, .ref s5, .ref s6, .ref s7, .ref s8, .ref s9, .ref s10, .ref s11, .ref s12, .int (-1), .int 0, .int (-1), .int (-1)])), (s0, .inr (4, [.ref ec, .ref ew, .int 0, .int 0])), (s1, .inr (4, [.ref fc, .ref fw, .int 0, .int 1])), (s2, .inr (4, [.ref gc, .ref gw, .int 0, .int 2])), (s4, .inr (0, [.int 0, .int 0, .int 0, .int 0, .int 0, .ref f5, .ref f6, .ref f7, .ref f8, .ref f9, .ref f10, .ref f11])), (s7, .inr (6, [.ref b0, .ref b1, .ref b2, .ref b3, .ref b4, .ref b5, .ref b6, .int 0, .int 0, .int 0, .int 0, .int 0])), (b2, .inl (cI, 16, .inl (fun _ => 0))), (b3, .inl (cI, 16, .inl (fun _ => 0))), (b4, .inl (cI, 16, .inl (ff4))), (b5, .inl (cI, 32, .inl (ff5)))] U.heap ∧ va_K (dC, dI) vwCl [(cI, .int)] U ∧ va_D (fun _ => True) [(h0, .inr (7, [.ref s0, .ref s1, .ref s2, .ref s3, .ref s4, .ref s5, .ref s6, .ref s7, .ref s8, .ref s9, .ref s10, .ref s11, .ref s12, .int (-1), .int 0, .int (-1), .int (-1)])), (s0, .inr (4, [.ref ec, .ref ew, .int 0, .int 0])), (s1, .inr (4, [.ref fc, .ref fw, .int 0, .int 1])), (s2, .inr (4, [.ref gc, .ref gw, .int 0, .int 2])), (s4, .inr (0, [.int 0, .int 0, .int 0, .int 0, .int 0, .ref f5, .ref f6, .ref f7, .ref f8, .ref f9, .ref f10, .ref f11])), (s7, .inr (6, [.ref b0, .ref b1, .ref b2, .ref b3, .ref b4, .ref b5, .ref b6, .int 0, .int 0, .int 0, .int 0, .int 0])), (b2, .inl (cI, 16, .inl (fun _ => 0))), (b3, .inl (cI, 16, .inl (fun _ => 0))), (b4, .inl (cI, 16, .inl (ff4))), (b5, .inl (cI, 32, .inl (ff5)))])) (va_Qv (fun _ : Unit => True) (fun (_ : Unit) (t : State) => ∃ (g4 : Nat → Int32), ∃ (g5 : Nat → Int32), va_P (dC, dI) vwCl [(h0, .inr (7, [.ref s0, .ref s1, .ref s2, .ref s3, .ref s4, .ref s5, .ref s6, .ref s7, .ref s8, .ref s9, .ref s10, .ref s11, .ref s12, .int (-1), .int 0, .int (-1), .int (-1)])), (s0, .inr (4, [.ref ec, .ref ew, .int 0, .int 0])), (s1, .inr (4, [.ref fc, .ref fw, .int 0, .int 1])), (s2, .inr (4, [.ref gc, .ref gw, .int 0, .int 2])), (s4, .inr (0, [.int 0, .int 0, .int 0, .int 0, .int 0, .ref f5, .ref f6, .ref f7, .ref f8, .ref f9, .ref f10, .ref f11])), (s7, .inr (6, [.ref b0, .ref b1, .ref b2, .ref b3, .ref b4, .ref b5, .ref b6, .int 0, .int 0, .int 0, .int 0, .int 0])), (b2, .inl (cI, 16, .inl (fun _ => 0))), (b3, .inl (cI, 16, .inl (fun _ => 0))), (b4, .inl (cI, 16, .inl (g4))), (b5, .inl (cI, 32, .inl (g5)))] t.heap ∧ va_K (dC, dI) vwCl [(cI, .int)] t ∧ va_D (va_A [(h0, .inr (7, [.ref s0, .ref s1, .ref s2, .ref s3, .ref s4, .ref s5, .ref s6, .ref s7, .ref s8, .ref s9, .ref s10, .ref s11, .ref s12, .int (-1), .int 0, .int (-1), .int (-1)])), (s0, .inr (4, [.ref ec, .ref ew, .int 0, .int 0])), (s1, .inr (4, [.ref fc, .ref fw, .int 0, .int 1])), (s2, .inr (4, [.ref gc, .ref gw, .int 0, .int 2])), (s4, .inr (0, [.int 0, .int 0, .int 0, .int 0, .int 0, .ref f5, .ref f6, .ref f7, .ref f8, .ref f9, .ref f10, .ref f11])), (s7, .inr (6, [.ref b0, .ref b1, .ref b2, .ref b3, .ref b4, .ref b5, .ref b6, .int 0, .int 0, .int 0, .int 0, .int 0])), (b2, .inl (cI, 16, .inl (fun _ => 0))), (b3, .inl (cI, 16, .inl (fun _ => 0))), (b4, .inl (cI, 16, .inl (ff4))), (b5, .inl (cI, 32, .inl (ff5)))] sz) [(h0, .inr (7, [.ref s0, .ref s1, .ref s2, .ref s3, .ref s4, .ref s5, .ref s6, .ref s7, .ref s8, .ref s9, .ref s10, .ref s11, .ref s12, .int (-1), .int 0, .int (-1), .int (-1)])), (s0, .inr (4, [.ref ec, .ref ew, .int 0, .int 0])), (s1, .inr (4, [.ref fc, .ref fw, .int 0, .int 1])), (s2, .inr (4, [.ref gc, .ref gw, .int 0, .int 2])), (s4, .inr (0, [.int 0, .int 0, .int 0, .int 0, .int 0, .ref f5, .ref f6, .ref f7, .ref f8, .ref f9, .ref f10, .ref f11])), (s7, .inr (6, [.ref b0, .ref b1, .ref b2, .ref b3, .ref b4, .ref b5, .ref b6, .int 0, .int 0, .int 0, .int 0, .int 0])), (b2, .inl (cI, 16, .inl (fun _ => 0))), (b3, .inl (cI, 16, .inl (fun _ => 0))), (b4, .inl (cI, 16, .inl (g4))), (b5, .inl (cI, 32, .inl (g5)))]) (va_A [(h0, .inr (7, [.ref s0, .ref s1, .ref s2, .ref s3, .ref s4, .ref s5, .ref s6, .ref s7, .ref s8, .ref s9, .ref s10, .ref s11, .ref s12, .int (-1), .int 0, .int (-1), .int (-1)])), (s0, .inr (4, [.ref ec, .ref ew, .int 0, .int 0])), (s1, .inr (4, [.ref fc, .ref fw, .int 0, .int 1])), (s2, .inr (4, [.ref gc, .ref gw, .int 0, .int 2])), (s4, .inr (0, [.int 0, .int 0, .int 0, .int 0, .int 0, .ref f5, .ref f6, .ref f7, .ref f8, .ref f9, .ref f10, .ref f11])), (s7, .inr (6, [.ref b0, .ref b1, .ref b2, .ref b3, .ref b4, .ref b5, .ref b6, .int 0, .int 0, .int 0, .int 0, .int 0])), (b2, .inl (cI, 16, .inl (fun _ => 0))), (b3, .inl (cI, 16, .inl (fun _ => 0))), (b4, .inl (cI, 16, .inl (ff4))), (b5, .inl (cI, 32, .inl (ff5)))] sz)) 0 0 (va_A [(h0, .inr (7, [.ref s0, .ref s1, .ref s2, .ref s3, .ref s4, .ref s5, .ref s6, .ref s7, .ref s8, .ref s9, .ref s10, .ref s11, .ref s12, .int (-1), .int 0, .int (-1), .int (-1)])), (s0, .inr (4, [.ref ec, .ref ew, .int 0, .int 0])), (s1, .inr (4, [.ref fc, .ref fw, .int 0, .int 1])), (s2, .inr (4, [.ref gc, .ref gw, .int 0, .int 2])), (s4, .inr (0, [.int 0, .int 0, .int 0, .int 0, .int 0, .ref f5, .ref f6, .ref f7, .ref f8, .ref f9, .ref f10, .ref f11])), (s7, .inr (6, [.ref b0, .ref b1, .ref b2, .ref b3, .ref b4, .ref b5, .ref b6, .int 0, .int 0, .int 0, .int 0, .int 0])), (b2, .inl (cI, 16, .inl (fun _ => 0))), (b3, .inl (cI, 16, .inl (fun _ => 0))), (b4, .inl (cI, 16, .inl (ff4))), (b5, .inl (cI, 32, .inl (ff5)))] sz) := by
  refine Met.ofW (cc := cX7_beginFamily) (maxL := 1) (ret := none) (by decide) rfl ?_
  intro p e s m args below meth c s₁ B hml hv
  obtain ⟨rfl, hsz, hP, hK, hD0⟩ := hv
  have hx := B.exec
  have hb := B.bytes
  have hr := B.returns
  have hts := atoms_spec (ws := w_c_X7_beginFamily_0) B.pre
  have hown : s.vm.findClass RX7 = some m.cls := findClass_of_methodNamed B.named
  have hlocks := B.notSynchronized
  subst hsz
  have hD := hD0.self (sz := s.heap.size)
  generalize hAe : va_A [(h0, .inr (7, [.ref s0, .ref s1, .ref s2, .ref s3, .ref s4, .ref s5, .ref s6, .ref s7, .ref s8, .ref s9, .ref s10, .ref s11, .ref s12, .int (-1), .int 0, .int (-1), .int (-1)])), (s0, .inr (4, [.ref ec, .ref ew, .int 0, .int 0])), (s1, .inr (4, [.ref fc, .ref fw, .int 0, .int 1])), (s2, .inr (4, [.ref gc, .ref gw, .int 0, .int 2])), (s4, .inr (0, [.int 0, .int 0, .int 0, .int 0, .int 0, .ref f5, .ref f6, .ref f7, .ref f8, .ref f9, .ref f10, .ref f11])), (s7, .inr (6, [.ref b0, .ref b1, .ref b2, .ref b3, .ref b4, .ref b5, .ref b6, .int 0, .int 0, .int 0, .int 0, .int 0])), (b2, .inl (cI, 16, .inl (fun _ => 0))), (b3, .inl (cI, 16, .inl (fun _ => 0))), (b4, .inl (cI, 16, .inl (ff4))), (b5, .inl (cI, 32, .inl (ff5)))] s.heap.size = A at hD ⊢
  have hA : ∀ q : Nat, s.heap.size ≤ q → A q := fun q h => by rw [← hAe]; exact Or.inr h
  have hS : va_S A s.heap s.heap [] := va_S.rf
  have hP : va_P (dC, dI) vwCl [(h0, .inr (7, [.ref s0, .ref s1, .ref s2, .ref s3, .ref s4, .ref s5, .ref s6, .ref s7, .ref s8, .ref s9, .ref s10, .ref s11, .ref s12, .int (-1), .int 0, .int (-1), .int (-1)])), (s0, .inr (4, [.ref ec, .ref ew, .int 0, .int 0])), (s1, .inr (4, [.ref fc, .ref fw, .int 0, .int 1])), (s2, .inr (4, [.ref gc, .ref gw, .int 0, .int 2])), (s4, .inr (0, [.int 0, .int 0, .int 0, .int 0, .int 0, .ref f5, .ref f6, .ref f7, .ref f8, .ref f9, .ref f10, .ref f11])), (s7, .inr (6, [.ref b0, .ref b1, .ref b2, .ref b3, .ref b4, .ref b5, .ref b6, .int 0, .int 0, .int 0, .int 0, .int 0])), (b2, .inl (cI, 16, .inl (fun _ => 0))), (b3, .inl (cI, 16, .inl (fun _ => 0))), (b4, .inl (cI, 16, .inl (ff4))), (b5, .inl (cI, 32, .inl (ff5)))] s.heap := hP
  have hl := lv_entry ([.ref h0]) (n := 1) (Nat.le_of_ble_eq_true rfl)
  rw [lg_entry_eq]
  generalize (lg_sl ([.ref h0]) ++ List.replicate (1 - (lg_sl ([.ref h0])).length) Slot.unset).toArray = ls at hl ⊢
  have hl : lv_has ls 1 [(0, .ref h0)] := hl
  refine lv_aload_n hx hb dX7_beginFamily_0 rfl (lv_at hl 0 rfl) ?_
  refine va_get (D := (dC, dI)) (ci := 7) (v := .ref s7) (C := RX7) (T := TX7) (N := 17) hx hb hts i_c_X7_beginFamily_0_X7 hown hK hP 0 rfl rfl 7 (by decide) (hts (.fieldLink RX7 39 "OnePassport$Search" "rules" "LOnePassport$Rules;") (List.mem_of_getElem? (i := 1) rfl)) (fun _ h9 => h9) rfl dX7_beginFamily_1 ?_
  refine lv_aload_n hx hb dX7_beginFamily_4 rfl (lv_at hl 0 rfl) ?_
  refine va_get (D := (dC, dI)) (ci := 7) (v := .ref s4) (C := RX7) (T := TX7) (N := 17) hx hb hts i_c_X7_beginFamily_0_X7 hown hK hP 0 rfl rfl 4 (by decide) (hts (.fieldLink RX7 83 "OnePassport$Search" "family" "LOnePassport$Family;") (List.mem_of_getElem? (i := 2) rfl)) (fun _ h9 => h9) rfl dX7_beginFamily_5 ?_
  refine lv_iconst (v := 1) hx hb dX7_beginFamily_8 (by decide) ?_
  have hPc := hP.sub (ws' := [(s7, .inr (6, [.ref b0, .ref b1, .ref b2, .ref b3, .ref b4, .ref b5, .ref b6, .int 0, .int 0, .int 0, .int 0, .int 0])), (s4, .inr (0, [.int 0, .int 0, .int 0, .int 0, .int 0, .ref f5, .ref f6, .ref f7, .ref f8, .ref f9, .ref f10, .ref f11])), (b2, .inl (cI, 16, .inl (fun _ => 0))), (b3, .inl (cI, 16, .inl (fun _ => 0))), (b4, .inl (cI, 16, .inl (ff4))), (b5, .inl (cI, 32, .inl (ff5)))]) [5, 4, 6, 7, 8, 9] rfl
  have hDc := hD.sub (ws' := [(s7, .inr (6, [.ref b0, .ref b1, .ref b2, .ref b3, .ref b4, .ref b5, .ref b6, .int 0, .int 0, .int 0, .int 0, .int 0])), (s4, .inr (0, [.int 0, .int 0, .int 0, .int 0, .int 0, .ref f5, .ref f6, .ref f7, .ref f8, .ref f9, .ref f10, .ref f11])), (b2, .inl (cI, 16, .inl (fun _ => 0))), (b3, .inl (cI, 16, .inl (fun _ => 0))), (b4, .inl (cI, 16, .inl (ff4))), (b5, .inl (cI, 32, .inl (ff5)))]) [5, 4, 6, 7, 8, 9] (by decide) rfl
  have hKc := hK.sub (tys' := [(cI, .int)]) [0] rfl
  have hFc := va_free (wc := [(s7, .inr (6, [.ref b0, .ref b1, .ref b2, .ref b3, .ref b4, .ref b5, .ref b6, .int 0, .int 0, .int 0, .int 0, .int 0])), (s4, .inr (0, [.int 0, .int 0, .int 0, .int 0, .int 0, .ref f5, .ref f6, .ref f7, .ref f8, .ref f9, .ref f10, .ref f11])), (b2, .inl (cI, 16, .inl (fun _ => 0))), (b3, .inl (cI, 16, .inl (fun _ => 0))), (b4, .inl (cI, 16, .inl (ff4))), (b5, .inl (cI, 32, .inl (ff5)))]) hD hS hA [5, 4, 6, 7, 8, 9] rfl
  refine va_callv (va_runV (As := [.ref s4, .int 1]) (rest := []) ⟨hx, hb, hml, hown, hts⟩ (c_X6_learn_0 l dC dI cI s7 s4 b0 b1 b2 b3 b4 b5 b6 f5 f6 f7 f8 f9 f10 f11 ff4 ff5 s.heap.size) (cwV 2 hts g_c_X7_beginFamily_0_0 rfl rfl rfl (by decide +kernel) ⟨Nat.le_of_ble_eq_true rfl, Nat.le_of_ble_eq_true rfl⟩) ⟨fun a U g mk q => by obtain ⟨q0, q1, qP, qK, qD⟩ := q; exact ⟨q0, q1, qP, va_K.moved (u := U) (U := U.calling g mk a) (Vm.Alike.refl U.vm) qK, qD⟩, va_recv hKc hPc (ci := 6) (q0 := 0) rfl rfl, fun U hU hW => ⟨rfl, by rw [hU], by rw [hU]; exact hPc, va_K.moved hW.alike hKc, hDc.weaken (fun _ _ _ _ => trivial)⟩⟩ rfl rfl hl.1 rfl (lv_room (Nat.le_of_ble_eq_true rfl)) dX7_beginFamily_9 ⟨Nat.le_of_ble_eq_true rfl, Nat.le_of_ble_eq_true rfl⟩) hS (fun q _ h => hFc q h) hFc (fun u t H1 locs ht hvm hw hB hz1 hk1 hS => ?_)
  obtain ⟨g_1, g_2, hP1, hK1, hD1⟩ := hB
  rw [ht] at hP1
  try dsimp only at hw
  obtain ⟨hP, hD⟩ := va_join (wr := [(h0, .inr (7, [.ref s0, .ref s1, .ref s2, .ref s3, .ref s4, .ref s5, .ref s6, .ref s7, .ref s8, .ref s9, .ref s10, .ref s11, .ref s12, .int (-1), .int 0, .int (-1), .int (-1)])), (s0, .inr (4, [.ref ec, .ref ew, .int 0, .int 0])), (s1, .inr (4, [.ref fc, .ref fw, .int 0, .int 1])), (s2, .inr (4, [.ref gc, .ref gw, .int 0, .int 2]))]) (w1 := [(s7, .inr (6, [.ref b0, .ref b1, .ref b2, .ref b3, .ref b4, .ref b5, .ref b6, .int 0, .int 0, .int 0, .int 0, .int 0])), (s4, .inr (0, [.int 0, .int 0, .int 0, .int 0, .int 0, .ref f5, .ref f6, .ref f7, .ref f8, .ref f9, .ref f10, .ref f11])), (b2, .inl (cI, 16, .inl (fun _ => 0))), (b3, .inl (cI, 16, .inl (fun _ => 0))), (b4, .inl (cI, 16, .inl (g_1))), (b5, .inl (cI, 32, .inl (g_2)))]) hP hD [5, 4, 6, 7, 8, 9] [0, 1, 2, 3] rfl rfl (by decide) (by decide) hk1 hFc hP1 hD1
  clear hPc hDc hKc hFc hk1 hP1 hK1 hD1
  generalize H1 = H at hP hS ⊢
  have hP : va_P (dC, dI) vwCl [(h0, .inr (7, [.ref s0, .ref s1, .ref s2, .ref s3, .ref s4, .ref s5, .ref s6, .ref s7, .ref s8, .ref s9, .ref s10, .ref s11, .ref s12, .int (-1), .int 0, .int (-1), .int (-1)])), (s0, .inr (4, [.ref ec, .ref ew, .int 0, .int 0])), (s1, .inr (4, [.ref fc, .ref fw, .int 0, .int 1])), (s2, .inr (4, [.ref gc, .ref gw, .int 0, .int 2])), (s7, .inr (6, [.ref b0, .ref b1, .ref b2, .ref b3, .ref b4, .ref b5, .ref b6, .int 0, .int 0, .int 0, .int 0, .int 0])), (s4, .inr (0, [.int 0, .int 0, .int 0, .int 0, .int 0, .ref f5, .ref f6, .ref f7, .ref f8, .ref f9, .ref f10, .ref f11])), (b2, .inl (cI, 16, .inl (fun _ => 0))), (b3, .inl (cI, 16, .inl (fun _ => 0))), (b4, .inl (cI, 16, .inl (g_1))), (b5, .inl (cI, 32, .inl (g_2)))] H := hP
  have hD : va_D A [(h0, .inr (7, [.ref s0, .ref s1, .ref s2, .ref s3, .ref s4, .ref s5, .ref s6, .ref s7, .ref s8, .ref s9, .ref s10, .ref s11, .ref s12, .int (-1), .int 0, .int (-1), .int (-1)])), (s0, .inr (4, [.ref ec, .ref ew, .int 0, .int 0])), (s1, .inr (4, [.ref fc, .ref fw, .int 0, .int 1])), (s2, .inr (4, [.ref gc, .ref gw, .int 0, .int 2])), (s7, .inr (6, [.ref b0, .ref b1, .ref b2, .ref b3, .ref b4, .ref b5, .ref b6, .int 0, .int 0, .int 0, .int 0, .int 0])), (s4, .inr (0, [.int 0, .int 0, .int 0, .int 0, .int 0, .ref f5, .ref f6, .ref f7, .ref f8, .ref f9, .ref f10, .ref f11])), (b2, .inl (cI, 16, .inl (fun _ => 0))), (b3, .inl (cI, 16, .inl (fun _ => 0))), (b4, .inl (cI, 16, .inl (g_1))), (b5, .inl (cI, 32, .inl (g_2)))] := hD
  refine lv_aload_n hx hb dX7_beginFamily_12 rfl (lv_at hl 0 rfl) ?_
  refine lv_iconst (v := 0) hx hb dX7_beginFamily_13 (by decide) ?_
  refine va_put (D := (dC, dI)) (ci := 7) (v := .int 0) (ty := .boolean) (C := RX7) (T := TX7) (N := 17) hx hb hts i_c_X7_beginFamily_0_X7 tyX7 tyX7_ok nmX7 hown hK hP hD hS 0 rfl rfl 14 (by decide) (hts (.fieldLink RX7 94 "OnePassport$Search" "graphBuilt" "Z") (List.mem_of_getElem? (i := 49) rfl)) (fun _ h9 => h9) rfl (by decide +kernel) rfl rfl (Nat.le_of_ble_eq_true rfl) dX7_beginFamily_14 (fun H locs hP hD hS => ?_)
  have hP : va_P (dC, dI) vwCl [(h0, .inr (7, [.ref s0, .ref s1, .ref s2, .ref s3, .ref s4, .ref s5, .ref s6, .ref s7, .ref s8, .ref s9, .ref s10, .ref s11, .ref s12, .int (-1), .int 0, .int (-1), .int (-1)])), (s0, .inr (4, [.ref ec, .ref ew, .int 0, .int 0])), (s1, .inr (4, [.ref fc, .ref fw, .int 0, .int 1])), (s2, .inr (4, [.ref gc, .ref gw, .int 0, .int 2])), (s7, .inr (6, [.ref b0, .ref b1, .ref b2, .ref b3, .ref b4, .ref b5, .ref b6, .int 0, .int 0, .int 0, .int 0, .int 0])), (s4, .inr (0, [.int 0, .int 0, .int 0, .int 0, .int 0, .ref f5, .ref f6, .ref f7, .ref f8, .ref f9, .ref f10, .ref f11])), (b2, .inl (cI, 16, .inl (fun _ => 0))), (b3, .inl (cI, 16, .inl (fun _ => 0))), (b4, .inl (cI, 16, .inl (g_1))), (b5, .inl (cI, 32, .inl (g_2)))] H := hP
  have hD : va_D A [(h0, .inr (7, [.ref s0, .ref s1, .ref s2, .ref s3, .ref s4, .ref s5, .ref s6, .ref s7, .ref s8, .ref s9, .ref s10, .ref s11, .ref s12, .int (-1), .int 0, .int (-1), .int (-1)])), (s0, .inr (4, [.ref ec, .ref ew, .int 0, .int 0])), (s1, .inr (4, [.ref fc, .ref fw, .int 0, .int 1])), (s2, .inr (4, [.ref gc, .ref gw, .int 0, .int 2])), (s7, .inr (6, [.ref b0, .ref b1, .ref b2, .ref b3, .ref b4, .ref b5, .ref b6, .int 0, .int 0, .int 0, .int 0, .int 0])), (s4, .inr (0, [.int 0, .int 0, .int 0, .int 0, .int 0, .ref f5, .ref f6, .ref f7, .ref f8, .ref f9, .ref f10, .ref f11])), (b2, .inl (cI, 16, .inl (fun _ => 0))), (b3, .inl (cI, 16, .inl (fun _ => 0))), (b4, .inl (cI, 16, .inl (g_1))), (b5, .inl (cI, 32, .inl (g_2)))] := hD
  refine lv_aload_n hx hb dX7_beginFamily_17 rfl (lv_at hl 0 rfl) ?_
  refine lv_iconst (v := (-1)) hx hb dX7_beginFamily_18 (by decide) ?_
  refine va_put (D := (dC, dI)) (ci := 7) (v := .int (-1)) (ty := .int) (C := RX7) (T := TX7) (N := 17) hx hb hts i_c_X7_beginFamily_0_X7 tyX7 tyX7_ok nmX7 hown hK hP hD hS 0 rfl rfl 13 (by decide) (hts (.fieldLink RX7 73 "OnePassport$Search" "soonestFrom" "I") (List.mem_of_getElem? (i := 50) rfl)) (fun _ h9 => h9) rfl (by decide +kernel) rfl rfl (Nat.le_of_ble_eq_true rfl) dX7_beginFamily_19 (fun H locs hP hD hS => ?_)
  have hP : va_P (dC, dI) vwCl [(h0, .inr (7, [.ref s0, .ref s1, .ref s2, .ref s3, .ref s4, .ref s5, .ref s6, .ref s7, .ref s8, .ref s9, .ref s10, .ref s11, .ref s12, .int (-1), .int 0, .int (-1), .int (-1)])), (s0, .inr (4, [.ref ec, .ref ew, .int 0, .int 0])), (s1, .inr (4, [.ref fc, .ref fw, .int 0, .int 1])), (s2, .inr (4, [.ref gc, .ref gw, .int 0, .int 2])), (s7, .inr (6, [.ref b0, .ref b1, .ref b2, .ref b3, .ref b4, .ref b5, .ref b6, .int 0, .int 0, .int 0, .int 0, .int 0])), (s4, .inr (0, [.int 0, .int 0, .int 0, .int 0, .int 0, .ref f5, .ref f6, .ref f7, .ref f8, .ref f9, .ref f10, .ref f11])), (b2, .inl (cI, 16, .inl (fun _ => 0))), (b3, .inl (cI, 16, .inl (fun _ => 0))), (b4, .inl (cI, 16, .inl (g_1))), (b5, .inl (cI, 32, .inl (g_2)))] H := hP
  have hD : va_D A [(h0, .inr (7, [.ref s0, .ref s1, .ref s2, .ref s3, .ref s4, .ref s5, .ref s6, .ref s7, .ref s8, .ref s9, .ref s10, .ref s11, .ref s12, .int (-1), .int 0, .int (-1), .int (-1)])), (s0, .inr (4, [.ref ec, .ref ew, .int 0, .int 0])), (s1, .inr (4, [.ref fc, .ref fw, .int 0, .int 1])), (s2, .inr (4, [.ref gc, .ref gw, .int 0, .int 2])), (s7, .inr (6, [.ref b0, .ref b1, .ref b2, .ref b3, .ref b4, .ref b5, .ref b6, .int 0, .int 0, .int 0, .int 0, .int 0])), (s4, .inr (0, [.int 0, .int 0, .int 0, .int 0, .int 0, .ref f5, .ref f6, .ref f7, .ref f8, .ref f9, .ref f10, .ref f11])), (b2, .inl (cI, 16, .inl (fun _ => 0))), (b3, .inl (cI, 16, .inl (fun _ => 0))), (b4, .inl (cI, 16, .inl (g_1))), (b5, .inl (cI, 32, .inl (g_2)))] := hD
  refine lv_aload_n hx hb dX7_beginFamily_22 rfl (lv_at hl 0 rfl) ?_
  refine lv_iconst (v := (-1)) hx hb dX7_beginFamily_23 (by decide) ?_
  refine va_put (D := (dC, dI)) (ci := 7) (v := .int (-1)) (ty := .int) (C := RX7) (T := TX7) (N := 17) hx hb hts i_c_X7_beginFamily_0_X7 tyX7 tyX7_ok nmX7 hown hK hP hD hS 0 rfl rfl 15 (by decide) (hts (.fieldLink RX7 77 "OnePassport$Search" "stateCount" "I") (List.mem_of_getElem? (i := 51) rfl)) (fun _ h9 => h9) rfl (by decide +kernel) rfl rfl (Nat.le_of_ble_eq_true rfl) dX7_beginFamily_24 (fun H locs hP hD hS => ?_)
  have hP : va_P (dC, dI) vwCl [(h0, .inr (7, [.ref s0, .ref s1, .ref s2, .ref s3, .ref s4, .ref s5, .ref s6, .ref s7, .ref s8, .ref s9, .ref s10, .ref s11, .ref s12, .int (-1), .int 0, .int (-1), .int (-1)])), (s0, .inr (4, [.ref ec, .ref ew, .int 0, .int 0])), (s1, .inr (4, [.ref fc, .ref fw, .int 0, .int 1])), (s2, .inr (4, [.ref gc, .ref gw, .int 0, .int 2])), (s7, .inr (6, [.ref b0, .ref b1, .ref b2, .ref b3, .ref b4, .ref b5, .ref b6, .int 0, .int 0, .int 0, .int 0, .int 0])), (s4, .inr (0, [.int 0, .int 0, .int 0, .int 0, .int 0, .ref f5, .ref f6, .ref f7, .ref f8, .ref f9, .ref f10, .ref f11])), (b2, .inl (cI, 16, .inl (fun _ => 0))), (b3, .inl (cI, 16, .inl (fun _ => 0))), (b4, .inl (cI, 16, .inl (g_1))), (b5, .inl (cI, 32, .inl (g_2)))] H := hP
  have hD : va_D A [(h0, .inr (7, [.ref s0, .ref s1, .ref s2, .ref s3, .ref s4, .ref s5, .ref s6, .ref s7, .ref s8, .ref s9, .ref s10, .ref s11, .ref s12, .int (-1), .int 0, .int (-1), .int (-1)])), (s0, .inr (4, [.ref ec, .ref ew, .int 0, .int 0])), (s1, .inr (4, [.ref fc, .ref fw, .int 0, .int 1])), (s2, .inr (4, [.ref gc, .ref gw, .int 0, .int 2])), (s7, .inr (6, [.ref b0, .ref b1, .ref b2, .ref b3, .ref b4, .ref b5, .ref b6, .int 0, .int 0, .int 0, .int 0, .int 0])), (s4, .inr (0, [.int 0, .int 0, .int 0, .int 0, .int 0, .ref f5, .ref f6, .ref f7, .ref f8, .ref f9, .ref f10, .ref f11])), (b2, .inl (cI, 16, .inl (fun _ => 0))), (b3, .inl (cI, 16, .inl (fun _ => 0))), (b4, .inl (cI, 16, .inl (g_1))), (b5, .inl (cI, 32, .inl (g_2)))] := hD
  refine lv_aload_n hx hb dX7_beginFamily_27 rfl (lv_at hl 0 rfl) ?_
  have hPc := hP.sub (ws' := [(h0, .inr (7, [.ref s0, .ref s1, .ref s2, .ref s3, .ref s4, .ref s5, .ref s6, .ref s7, .ref s8, .ref s9, .ref s10, .ref s11, .ref s12, .int (-1), .int 0, .int (-1), .int (-1)])), (s0, .inr (4, [.ref ec, .ref ew, .int 0, .int 0])), (s1, .inr (4, [.ref fc, .ref fw, .int 0, .int 1])), (s2, .inr (4, [.ref gc, .ref gw, .int 0, .int 2]))]) [0, 1, 2, 3] rfl
  have hDc := hD.sub (ws' := [(h0, .inr (7, [.ref s0, .ref s1, .ref s2, .ref s3, .ref s4, .ref s5, .ref s6, .ref s7, .ref s8, .ref s9, .ref s10, .ref s11, .ref s12, .int (-1), .int 0, .int (-1), .int (-1)])), (s0, .inr (4, [.ref ec, .ref ew, .int 0, .int 0])), (s1, .inr (4, [.ref fc, .ref fw, .int 0, .int 1])), (s2, .inr (4, [.ref gc, .ref gw, .int 0, .int 2]))]) [0, 1, 2, 3] (by decide) rfl
  have hKc := hK.sub (tys' := []) [] rfl
  have hFc := va_free (wc := [(h0, .inr (7, [.ref s0, .ref s1, .ref s2, .ref s3, .ref s4, .ref s5, .ref s6, .ref s7, .ref s8, .ref s9, .ref s10, .ref s11, .ref s12, .int (-1), .int 0, .int (-1), .int (-1)])), (s0, .inr (4, [.ref ec, .ref ew, .int 0, .int 0])), (s1, .inr (4, [.ref fc, .ref fw, .int 0, .int 1])), (s2, .inr (4, [.ref gc, .ref gw, .int 0, .int 2]))]) hD hS hA [0, 1, 2, 3] rfl
  refine va_callv (va_runV (As := []) (rest := []) ⟨hx, hb, hml, hown, hts⟩ (c_X7_forgetGoal_0 l dC dI h0 s0 s1 s2 s3 s4 s5 s6 s7 s8 s9 s10 s11 s12 ec ew fc fw gc gw H.size) (cwV 0 hts g_c_X7_beginFamily_0_1 rfl rfl rfl (by decide +kernel) ⟨Nat.le_of_ble_eq_true rfl, Nat.le_of_ble_eq_true rfl⟩) ⟨fun a U g mk q => by obtain ⟨q0, q1, qP, qK, qD⟩ := q; exact ⟨q0, q1, qP, va_K.moved (u := U) (U := U.calling g mk a) (Vm.Alike.refl U.vm) qK, qD⟩, va_recv hKc hPc (ci := 7) (q0 := 0) rfl rfl, fun U hU hW => ⟨rfl, by rw [hU], by rw [hU]; exact hPc, va_K.moved hW.alike hKc, hDc.weaken (fun _ _ _ _ => trivial)⟩⟩ rfl rfl hl.1 rfl (lv_room (Nat.le_of_ble_eq_true rfl)) dX7_beginFamily_28 ⟨Nat.le_of_ble_eq_true rfl, Nat.le_of_ble_eq_true rfl⟩) hS (fun q _ h => hFc q h) hFc (fun u t H1 locs ht hvm hw hB hz1 hk1 hS => ?_)
  obtain ⟨hP1, hK1, hD1⟩ := hB
  rw [ht] at hP1
  try dsimp only at hw
  obtain ⟨hP, hD⟩ := va_join (wr := [(s7, .inr (6, [.ref b0, .ref b1, .ref b2, .ref b3, .ref b4, .ref b5, .ref b6, .int 0, .int 0, .int 0, .int 0, .int 0])), (s4, .inr (0, [.int 0, .int 0, .int 0, .int 0, .int 0, .ref f5, .ref f6, .ref f7, .ref f8, .ref f9, .ref f10, .ref f11])), (b2, .inl (cI, 16, .inl (fun _ => 0))), (b3, .inl (cI, 16, .inl (fun _ => 0))), (b4, .inl (cI, 16, .inl (g_1))), (b5, .inl (cI, 32, .inl (g_2)))]) (w1 := [(h0, .inr (7, [.ref s0, .ref s1, .ref s2, .ref s3, .ref s4, .ref s5, .ref s6, .ref s7, .ref s8, .ref s9, .ref s10, .ref s11, .ref s12, .int (-1), .int 0, .int (-1), .int (-1)])), (s0, .inr (4, [.ref ec, .ref ew, .int 0, .int 0])), (s1, .inr (4, [.ref fc, .ref fw, .int 0, .int 1])), (s2, .inr (4, [.ref gc, .ref gw, .int 0, .int 2]))]) hP hD [0, 1, 2, 3] [4, 5, 6, 7, 8, 9] rfl rfl (by decide) (by decide) hk1 hFc hP1 hD1
  clear hPc hDc hKc hFc hk1 hP1 hK1 hD1
  generalize H1 = H at hP hS ⊢
  have hP : va_P (dC, dI) vwCl [(s7, .inr (6, [.ref b0, .ref b1, .ref b2, .ref b3, .ref b4, .ref b5, .ref b6, .int 0, .int 0, .int 0, .int 0, .int 0])), (s4, .inr (0, [.int 0, .int 0, .int 0, .int 0, .int 0, .ref f5, .ref f6, .ref f7, .ref f8, .ref f9, .ref f10, .ref f11])), (b2, .inl (cI, 16, .inl (fun _ => 0))), (b3, .inl (cI, 16, .inl (fun _ => 0))), (b4, .inl (cI, 16, .inl (g_1))), (b5, .inl (cI, 32, .inl (g_2))), (h0, .inr (7, [.ref s0, .ref s1, .ref s2, .ref s3, .ref s4, .ref s5, .ref s6, .ref s7, .ref s8, .ref s9, .ref s10, .ref s11, .ref s12, .int (-1), .int 0, .int (-1), .int (-1)])), (s0, .inr (4, [.ref ec, .ref ew, .int 0, .int 0])), (s1, .inr (4, [.ref fc, .ref fw, .int 0, .int 1])), (s2, .inr (4, [.ref gc, .ref gw, .int 0, .int 2]))] H := hP
  have hD : va_D A [(s7, .inr (6, [.ref b0, .ref b1, .ref b2, .ref b3, .ref b4, .ref b5, .ref b6, .int 0, .int 0, .int 0, .int 0, .int 0])), (s4, .inr (0, [.int 0, .int 0, .int 0, .int 0, .int 0, .ref f5, .ref f6, .ref f7, .ref f8, .ref f9, .ref f10, .ref f11])), (b2, .inl (cI, 16, .inl (fun _ => 0))), (b3, .inl (cI, 16, .inl (fun _ => 0))), (b4, .inl (cI, 16, .inl (g_1))), (b5, .inl (cI, 32, .inl (g_2))), (h0, .inr (7, [.ref s0, .ref s1, .ref s2, .ref s3, .ref s4, .ref s5, .ref s6, .ref s7, .ref s8, .ref s9, .ref s10, .ref s11, .ref s12, .int (-1), .int 0, .int (-1), .int (-1)])), (s0, .inr (4, [.ref ec, .ref ew, .int 0, .int 0])), (s1, .inr (4, [.ref fc, .ref fw, .int 0, .int 1])), (s2, .inr (4, [.ref gc, .ref gw, .int 0, .int 2]))] := hD
  have hP9 := hP.sub (ws' := [(h0, .inr (7, [.ref s0, .ref s1, .ref s2, .ref s3, .ref s4, .ref s5, .ref s6, .ref s7, .ref s8, .ref s9, .ref s10, .ref s11, .ref s12, .int (-1), .int 0, .int (-1), .int (-1)])), (s0, .inr (4, [.ref ec, .ref ew, .int 0, .int 0])), (s1, .inr (4, [.ref fc, .ref fw, .int 0, .int 1])), (s2, .inr (4, [.ref gc, .ref gw, .int 0, .int 2])), (s4, .inr (0, [.int 0, .int 0, .int 0, .int 0, .int 0, .ref f5, .ref f6, .ref f7, .ref f8, .ref f9, .ref f10, .ref f11])), (s7, .inr (6, [.ref b0, .ref b1, .ref b2, .ref b3, .ref b4, .ref b5, .ref b6, .int 0, .int 0, .int 0, .int 0, .int 0])), (b2, .inl (cI, 16, .inl (fun _ => 0))), (b3, .inl (cI, 16, .inl (fun _ => 0))), (b4, .inl (cI, 16, .inl (g_1))), (b5, .inl (cI, 32, .inl (g_2)))]) [6, 7, 8, 9, 1, 0, 2, 3, 4, 5] rfl
  have hD9 := hD.sub (ws' := [(h0, .inr (7, [.ref s0, .ref s1, .ref s2, .ref s3, .ref s4, .ref s5, .ref s6, .ref s7, .ref s8, .ref s9, .ref s10, .ref s11, .ref s12, .int (-1), .int 0, .int (-1), .int (-1)])), (s0, .inr (4, [.ref ec, .ref ew, .int 0, .int 0])), (s1, .inr (4, [.ref fc, .ref fw, .int 0, .int 1])), (s2, .inr (4, [.ref gc, .ref gw, .int 0, .int 2])), (s4, .inr (0, [.int 0, .int 0, .int 0, .int 0, .int 0, .ref f5, .ref f6, .ref f7, .ref f8, .ref f9, .ref f10, .ref f11])), (s7, .inr (6, [.ref b0, .ref b1, .ref b2, .ref b3, .ref b4, .ref b5, .ref b6, .int 0, .int 0, .int 0, .int 0, .int 0])), (b2, .inl (cI, 16, .inl (fun _ => 0))), (b3, .inl (cI, 16, .inl (fun _ => 0))), (b4, .inl (cI, 16, .inl (g_1))), (b5, .inl (cI, 32, .inl (g_2)))]) [6, 7, 8, 9, 1, 0, 2, 3, 4, 5] (by decide) rfl
  exact W.vret hx hb hr (fun t ht hW => ⟨⟨(), rfl, trivial, g_1, g_2, by rw [ht]; exact hP9, va_K.moved hW.alike hK, hD9⟩, hS.F ht⟩) hS.2.2 dX7_beginFamily_31
