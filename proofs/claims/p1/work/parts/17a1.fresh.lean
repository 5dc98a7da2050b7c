theorem dX9_step_0 : decode cX9_step 0 = .ok (.aload_n 0, 1) := by decide +kernel
theorem dX9_step_1 : decode cX9_step 1 = .ok (.aload_n 0, 1) := by decide +kernel
theorem dX9_step_2 : decode cX9_step 2 = .ok (.getfield 25, 3) := by decide +kernel
theorem dX9_step_5 : decode cX9_step 5 = .ok (.putfield 124, 3) := by decide +kernel
theorem dX9_step_8 : decode cX9_step 8 = .ok (.aload_n 0, 1) := by decide +kernel
theorem dX9_step_9 : decode cX9_step 9 = .ok (.getfield 124, 3) := by decide +kernel
theorem dX9_step_12 : decode cX9_step 12 = .ok (.aload_n 0, 1) := by decide +kernel
theorem dX9_step_13 : decode cX9_step 13 = .ok (.getfield 19, 3) := by decide +kernel
theorem dX9_step_16 : decode cX9_step 16 = .ok (.if_icmp .ge 28, 3) := by decide +kernel
theorem dX9_step_44 : decode cX9_step 44 = .ok (.aload_n 0, 1) := by decide +kernel
theorem dX9_step_45 : decode cX9_step 45 = .ok (.aload_n 0, 1) := by decide +kernel
theorem dX9_step_46 : decode cX9_step 46 = .ok (.getfield 124, 3) := by decide +kernel
theorem dX9_step_49 : decode cX9_step 49 = .ok (.putfield 25, 3) := by decide +kernel
theorem dX9_step_52 : decode cX9_step 52 = .ok (.aload_n 0, 1) := by decide +kernel
theorem dX9_step_53 : decode cX9_step 53 = .ok (.aload_n 0, 1) := by decide +kernel
theorem dX9_step_54 : decode cX9_step 54 = .ok (.aload_n 0, 1) := by decide +kernel
theorem dX9_step_55 : decode cX9_step 55 = .ok (.getfield 124, 3) := by decide +kernel
theorem dX9_step_58 : decode cX9_step 58 = .ok (.invokevirtual 145, 3) := by decide +kernel
theorem dX9_step_61 : decode cX9_step 61 = .ok (.putfield 36, 3) := by decide +kernel
theorem dX9_step_64 : decode cX9_step 64 = .ok (.aload_n 0, 1) := by decide +kernel
theorem dX9_step_65 : decode cX9_step 65 = .ok (.getfield 36, 3) := by decide +kernel
theorem dX9_step_68 : decode cX9_step 68 = .ok (.ifCond .eq 13, 3) := by decide +kernel
theorem dX9_step_81 : decode cX9_step 81 = .ok (.aload_n 0, 1) := by decide +kernel
theorem dX9_step_82 : decode cX9_step 82 = .ok (.getfield 36, 3) := by decide +kernel
theorem dX9_step_85 : decode cX9_step 85 = .ok (.iconst 1, 1) := by decide +kernel
theorem dX9_step_86 : decode cX9_step 86 = .ok (.if_icmp .eq 11, 3) := by decide +kernel
theorem dX9_step_89 : decode cX9_step 89 = .ok (.aload_n 0, 1) := by decide +kernel
theorem dX9_step_90 : decode cX9_step 90 = .ok (.getfield 36, 3) := by decide +kernel
theorem dX9_step_93 : decode cX9_step 93 = .ok (.iconst 2, 1) := by decide +kernel
theorem dX9_step_94 : decode cX9_step 94 = .ok (.if_icmp .ne 7, 3) := by decide +kernel
theorem dX9_step_101 : decode cX9_step 101 = .ok (.iconst 0, 1) := by decide +kernel
theorem dX9_step_102 : decode cX9_step 102 = .ok (.istore_n 1, 1) := by decide +kernel
theorem dX9_step_103 : decode cX9_step 103 = .ok (.iload_n 1, 1) := by decide +kernel
theorem dX9_step_104 : decode cX9_step 104 = .ok (.ifCond .eq 42, 3) := by decide +kernel
theorem dX9_step_146 : decode cX9_step 146 = .ok (.return_, 1) := by decide +kernel
def w_c_X9_step_0 : List Cond := .code yX9_step cX9_step 2 none :: ([.fieldLink RX9 25 "OnePassport$Tape" "stop" "I", .fieldLink RX9 124 "OnePassport$Tape" "start" "I", .fieldLink RX9 19 "OnePassport$Tape" "length" "I", .methodLink RX9 145 yX9_kindAt, .instanceMethod yX9_kindAt, .selects RX9 yX9_kindAt yX9_kindAt, .initialized RX9, .code yX9_kindAt cX9_kindAt 3 (some .int), .fieldLink RX9 36 "OnePassport$Tape" "kind" "I"] ++ wsX90)
theorem i_c_X9_step_0_X9 : ∀ w ∈ wsX90, w ∈ w_c_X9_step_0 := fun _ h => List.mem_cons_of_mem _ (List.mem_append_right _ h)
set_option maxRecDepth 100000 in
theorem g_c_X9_step_0_0 : GoodIn w_c_X9_step_0 (wsV RX9 145 RX9 yX9_kindAt w_c_X9_kindAt_0) := goodIn_of _ (by decide +kernel)
set_option maxHeartbeats 4000000 in
set_option maxRecDepth 100000 in
theorem c_X9_step_0 (l : Launch) (dC : Nat → ClassId) (dI : Nat → Nat → Nat) (h0 : Nat) (tb : Nat) (sz : Nat) : Met l yX9_step w_c_X9_step_0 ({ frames := 1, cells := 0, slots := 0, locals := 22 }) (va_Pc [.ref h0] (fun U => U.heap.size = sz ∧ va_P (dC, dI) vwCl [(h0, .inr (9, [.ref tb, .int 0, .int 0, .int (-1), .int 0, .int 0, .int 0]))] U.heap ∧ va_K (dC, dI) vwCl [] U ∧ va_D (fun _ => True) [(h0, .inr (9, [.ref tb, .int 0, .int 0, .int (-1), .int 0, .int 0, .int 0]))])) (va_Qv (fun _ : Unit => True) (fun (_ : Unit) (t : State) => va_P (dC, dI) vwCl [(h0, .inr (9, [.ref tb, .int 0, .int 0, .int (-1), .int 0, .int 0, .int 0]))] t.heap ∧ va_K (dC, dI) vwCl [] t ∧ va_D (va_A [(h0, .inr (9, [.ref tb, .int 0, .int 0, .int (-1), .int 0, .int 0, .int 0]))] sz) [(h0, .inr (9, [.ref tb, .int 0, .int 0, .int (-1), .int 0, .int 0, .int 0]))]) (va_A [(h0, .inr (9, [.ref tb, .int 0, .int 0, .int (-1), .int 0, .int 0, .int 0]))] sz)) 0 0 (va_A [(h0, .inr (9, [.ref tb, .int 0, .int 0, .int (-1), .int 0, .int 0, .int 0]))] sz) := by
  refine Met.ofW (cc := cX9_step) (maxL := 2) (ret := none) (by decide) rfl ?_
  intro p e s m args below meth c s₁ B hml hv
  obtain ⟨rfl, hsz, hP, hK, hD0⟩ := hv
  have hx := B.exec
  have hb := B.bytes
  have hr := B.returns
  have hts := atoms_spec (ws := w_c_X9_step_0) B.pre
  have hown : s.vm.findClass RX9 = some m.cls := findClass_of_methodNamed B.named
  have hlocks := B.notSynchronized
  subst hsz
  have hD := hD0.self (sz := s.heap.size)
  generalize hAe : va_A [(h0, .inr (9, [.ref tb, .int 0, .int 0, .int (-1), .int 0, .int 0, .int 0]))] s.heap.size = A at hD ⊢
  have hA : ∀ q : Nat, s.heap.size ≤ q → A q := fun q h => by rw [← hAe]; exact Or.inr h
  have hS : va_S A s.heap s.heap [] := va_S.rf
  have hP : va_P (dC, dI) vwCl [(h0, .inr (9, [.ref tb, .int 0, .int 0, .int (-1), .int 0, .int 0, .int 0]))] s.heap := hP
  have hl := lv_entry ([.ref h0]) (n := 2) (Nat.le_of_ble_eq_true rfl)
  rw [lg_entry_eq]
  generalize (lg_sl ([.ref h0]) ++ List.replicate (2 - (lg_sl ([.ref h0])).length) Slot.unset).toArray = ls at hl ⊢
  have hl : lv_has ls 2 [(0, .ref h0)] := hl
  refine lv_aload_n hx hb dX9_step_0 rfl (lv_at hl 0 rfl) ?_
  refine lv_aload_n hx hb dX9_step_1 rfl (lv_at hl 0 rfl) ?_
  refine va_get (D := (dC, dI)) (ci := 9) (v := .int 0) (C := RX9) (T := TX9) (N := 7) hx hb hts i_c_X9_step_0_X9 hown hK hP 0 rfl rfl 6 (by decide) (hts (.fieldLink RX9 25 "OnePassport$Tape" "stop" "I") (List.mem_of_getElem? (i := 1) rfl)) (fun _ h9 => h9) rfl dX9_step_2 ?_
  refine va_put (D := (dC, dI)) (ci := 9) (v := .int 0) (ty := .int) (C := RX9) (T := TX9) (N := 7) hx hb hts i_c_X9_step_0_X9 tyX9 tyX9_ok nmX9 hown hK hP hD hS 0 rfl rfl 5 (by decide) (hts (.fieldLink RX9 124 "OnePassport$Tape" "start" "I") (List.mem_of_getElem? (i := 2) rfl)) (fun _ h9 => h9) rfl (by decide +kernel) rfl rfl (Nat.le_of_ble_eq_true rfl) dX9_step_5 (fun H locs hP hD hS => ?_)
  have hP : va_P (dC, dI) vwCl [(h0, .inr (9, [.ref tb, .int 0, .int 0, .int (-1), .int 0, .int 0, .int 0]))] H := hP
  have hD : va_D A [(h0, .inr (9, [.ref tb, .int 0, .int 0, .int (-1), .int 0, .int 0, .int 0]))] := hD
  refine lv_aload_n hx hb dX9_step_8 rfl (lv_at hl 0 rfl) ?_
  refine va_get (D := (dC, dI)) (ci := 9) (v := .int 0) (C := RX9) (T := TX9) (N := 7) hx hb hts i_c_X9_step_0_X9 hown hK hP 0 rfl rfl 5 (by decide) (hts (.fieldLink RX9 124 "OnePassport$Tape" "start" "I") (List.mem_of_getElem? (i := 2) rfl)) (fun _ h9 => h9) rfl dX9_step_9 ?_
  refine lv_aload_n hx hb dX9_step_12 rfl (lv_at hl 0 rfl) ?_
  refine va_get (D := (dC, dI)) (ci := 9) (v := .int 0) (C := RX9) (T := TX9) (N := 7) hx hb hts i_c_X9_step_0_X9 hown hK hP 0 rfl rfl 1 (by decide) (hts (.fieldLink RX9 19 "OnePassport$Tape" "length" "I") (List.mem_of_getElem? (i := 3) rfl)) (fun _ h9 => h9) rfl dX9_step_13 ?_
  refine lv_icmp_ge (tgt := 44) hx hb dX9_step_16 (by decide) (fun c_1 => ?_) (fun c_1 => absurd (by decide) c_1)
  refine lv_aload_n hx hb dX9_step_44 rfl (lv_at hl 0 rfl) ?_
  refine lv_aload_n hx hb dX9_step_45 rfl (lv_at hl 0 rfl) ?_
  refine va_get (D := (dC, dI)) (ci := 9) (v := .int 0) (C := RX9) (T := TX9) (N := 7) hx hb hts i_c_X9_step_0_X9 hown hK hP 0 rfl rfl 5 (by decide) (hts (.fieldLink RX9 124 "OnePassport$Tape" "start" "I") (List.mem_of_getElem? (i := 2) rfl)) (fun _ h9 => h9) rfl dX9_step_46 ?_
  refine va_put (D := (dC, dI)) (ci := 9) (v := .int 0) (ty := .int) (C := RX9) (T := TX9) (N := 7) hx hb hts i_c_X9_step_0_X9 tyX9 tyX9_ok nmX9 hown hK hP hD hS 0 rfl rfl 6 (by decide) (hts (.fieldLink RX9 25 "OnePassport$Tape" "stop" "I") (List.mem_of_getElem? (i := 1) rfl)) (fun _ h9 => h9) rfl (by decide +kernel) rfl rfl (Nat.le_of_ble_eq_true rfl) dX9_step_49 (fun H locs hP hD hS => ?_)
  have hP : va_P (dC, dI) vwCl [(h0, .inr (9, [.ref tb, .int 0, .int 0, .int (-1), .int 0, .int 0, .int 0]))] H := hP
  have hD : va_D A [(h0, .inr (9, [.ref tb, .int 0, .int 0, .int (-1), .int 0, .int 0, .int 0]))] := hD
  refine lv_aload_n hx hb dX9_step_52 rfl (lv_at hl 0 rfl) ?_
  refine lv_aload_n hx hb dX9_step_53 rfl (lv_at hl 0 rfl) ?_
  refine lv_aload_n hx hb dX9_step_54 rfl (lv_at hl 0 rfl) ?_
  refine va_get (D := (dC, dI)) (ci := 9) (v := .int 0) (C := RX9) (T := TX9) (N := 7) hx hb hts i_c_X9_step_0_X9 hown hK hP 0 rfl rfl 5 (by decide) (hts (.fieldLink RX9 124 "OnePassport$Tape" "start" "I") (List.mem_of_getElem? (i := 2) rfl)) (fun _ h9 => h9) rfl dX9_step_55 ?_
  have hPc := hP.sub (ws' := [(h0, .inr (9, [.ref tb, .int 0, .int 0, .int (-1), .int 0, .int 0, .int 0]))]) [0] rfl
  have hDc := hD.sub (ws' := [(h0, .inr (9, [.ref tb, .int 0, .int 0, .int (-1), .int 0, .int 0, .int 0]))]) [0] (by decide) rfl
  have hKc := hK.sub (tys' := []) [] rfl
  have hFc := va_free (wc := [(h0, .inr (9, [.ref tb, .int 0, .int 0, .int (-1), .int 0, .int 0, .int 0]))]) hD hS hA [0] rfl
  refine va_calli (va_runV (As := [.int 0]) (rest := [.ref h0]) ⟨hx, hb, hml, hown, hts⟩ (c_X9_kindAt_0 l dC dI h0 tb H.size) (cwV 1 hts g_c_X9_step_0_0 rfl rfl rfl (by decide +kernel) ⟨Nat.le_of_ble_eq_true rfl, Nat.le_of_ble_eq_true rfl⟩) ⟨fun a U g mk q => by obtain ⟨q0, q1, qP, qK, qD⟩ := q; exact ⟨q0, q1, qP, va_K.moved (u := U) (U := U.calling g mk a) (Vm.Alike.refl U.vm) qK, qD⟩, va_recv hKc hPc (ci := 9) (q0 := 0) rfl rfl, fun U hU hW => ⟨rfl, by rw [hU], by rw [hU]; exact hPc, va_K.moved hW.alike hKc, hDc.weaken (fun _ _ _ _ => trivial)⟩⟩ rfl rfl hl.1 rfl (lv_room (Nat.le_of_ble_eq_true rfl)) dX9_step_58 ⟨Nat.le_of_ble_eq_true rfl, Nat.le_of_ble_eq_true rfl⟩) hS (fun q _ h => hFc q h) hFc (fun r_2 u t H1 locs ht hvm hw hB hz1 hk1 hS => ?_)
  obtain ⟨hP1, hK1, hD1⟩ := hB
  rw [ht] at hP1
  try dsimp only at hw
  obtain ⟨hP, hD⟩ := va_join (wr := []) (w1 := [(h0, .inr (9, [.ref tb, .int 0, .int 0, .int (-1), .int 0, .int 0, .int 0]))]) hP hD [0] [] rfl rfl (by decide) (by decide) hk1 hFc hP1 hD1
  clear hPc hDc hKc hFc hk1 hP1 hK1 hD1
  generalize H1 = H at hP hS ⊢
  have hP : va_P (dC, dI) vwCl [(h0, .inr (9, [.ref tb, .int 0, .int 0, .int (-1), .int 0, .int 0, .int 0]))] H := hP
  have hD : va_D A [(h0, .inr (9, [.ref tb, .int 0, .int 0, .int (-1), .int 0, .int 0, .int 0]))] := hD
  have er_2 : r_2 = 0 := hw
  refine wx_ti (y := 0) er_2 ?_
  refine va_put (D := (dC, dI)) (ci := 9) (v := .int 0) (ty := .int) (C := RX9) (T := TX9) (N := 7) hx hb hts i_c_X9_step_0_X9 tyX9 tyX9_ok nmX9 hown hK hP hD hS 0 rfl rfl 4 (by decide) (hts (.fieldLink RX9 36 "OnePassport$Tape" "kind" "I") (List.mem_of_getElem? (i := 9) rfl)) (fun _ h9 => h9) rfl (by decide +kernel) rfl rfl (Nat.le_of_ble_eq_true rfl) dX9_step_61 (fun H locs hP hD hS => ?_)
  have hP : va_P (dC, dI) vwCl [(h0, .inr (9, [.ref tb, .int 0, .int 0, .int (-1), .int 0, .int 0, .int 0]))] H := hP
  have hD : va_D A [(h0, .inr (9, [.ref tb, .int 0, .int 0, .int (-1), .int 0, .int 0, .int 0]))] := hD
  refine lv_aload_n hx hb dX9_step_64 rfl (lv_at hl 0 rfl) ?_
  refine va_get (D := (dC, dI)) (ci := 9) (v := .int 0) (C := RX9) (T := TX9) (N := 7) hx hb hts i_c_X9_step_0_X9 hown hK hP 0 rfl rfl 4 (by decide) (hts (.fieldLink RX9 36 "OnePassport$Tape" "kind" "I") (List.mem_of_getElem? (i := 9) rfl)) (fun _ h9 => h9) rfl dX9_step_65 ?_
  refine lv_if_eq (tgt := 81) hx hb dX9_step_68 (by decide) (fun c_3 => ?_) (fun c_3 => absurd rfl c_3)
  refine lv_aload_n hx hb dX9_step_81 rfl (lv_at hl 0 rfl) ?_
  refine va_get (D := (dC, dI)) (ci := 9) (v := .int 0) (C := RX9) (T := TX9) (N := 7) hx hb hts i_c_X9_step_0_X9 hown hK hP 0 rfl rfl 4 (by decide) (hts (.fieldLink RX9 36 "OnePassport$Tape" "kind" "I") (List.mem_of_getElem? (i := 9) rfl)) (fun _ h9 => h9) rfl dX9_step_82 ?_
  refine lv_iconst (v := 1) hx hb dX9_step_85 (by decide) ?_
  refine lv_icmp_eq (tgt := 97) hx hb dX9_step_86 (by decide) (fun c_4 => absurd c_4 (by decide)) (fun c_4 => ?_)
  refine lv_aload_n hx hb dX9_step_89 rfl (lv_at hl 0 rfl) ?_
  refine va_get (D := (dC, dI)) (ci := 9) (v := .int 0) (C := RX9) (T := TX9) (N := 7) hx hb hts i_c_X9_step_0_X9 hown hK hP 0 rfl rfl 4 (by decide) (hts (.fieldLink RX9 36 "OnePassport$Tape" "kind" "I") (List.mem_of_getElem? (i := 9) rfl)) (fun _ h9 => h9) rfl dX9_step_90 ?_
  refine lv_iconst (v := 2) hx hb dX9_step_93 (by decide) ?_
  refine lv_icmp_ne (tgt := 101) hx hb dX9_step_94 (by decide) (fun c_5 => ?_) (fun c_5 => absurd c_5 (by decide))
  refine lv_iconst (v := 0) hx hb dX9_step_101 (by decide) ?_
  refine lv_istore_n (lv' := [(1, .int 0), (0, .ref h0)]) hx hb dX9_step_102 rfl hl (by decide) rfl (fun ls hl => ?_)
  refine lv_iload_n hx hb dX9_step_103 rfl (lv_at hl 0 rfl) ?_
  refine lv_if_eq (tgt := 146) hx hb dX9_step_104 (by decide) (fun c_6 => ?_) (fun c_6 => absurd rfl c_6)
  have hP9 := hP.sub (ws' := [(h0, .inr (9, [.ref tb, .int 0, .int 0, .int (-1), .int 0, .int 0, .int 0]))]) [0] rfl
  have hD9 := hD.sub (ws' := [(h0, .inr (9, [.ref tb, .int 0, .int 0, .int (-1), .int 0, .int 0, .int 0]))]) [0] (by decide) rfl
  exact W.vret hx hb hr (fun t ht hW => ⟨⟨(), rfl, trivial, by rw [ht]; exact hP9, va_K.moved hW.alike hK, hD9⟩, hS.F ht⟩) hS.2.2 dX9_step_146

