theorem dX9_append_0 : decode cX9_append 0 = .ok (.bipush 24, 2) := by decide +kernel
theorem dX9_append_2 : decode cX9_append 2 = .ok (.istore_n 2, 1) := by decide +kernel
theorem dX9_append_3 : decode cX9_append 3 = .ok (.iload_n 2, 1) := by decide +kernel
theorem dX9_append_4 : decode cX9_append 4 = .ok (.ifCond .lt 42, 3) := by decide +kernel
theorem dX9_append_7 : decode cX9_append 7 = .ok (.aload_n 0, 1) := by decide +kernel
theorem dX9_append_8 : decode cX9_append 8 = .ok (.getfield 19, 3) := by decide +kernel
theorem dX9_append_11 : decode cX9_append 11 = .ok (.sipush 600, 3) := by decide +kernel
theorem dX9_append_14 : decode cX9_append 14 = .ok (.if_icmp .ge 32, 3) := by decide +kernel
theorem dX9_append_17 : decode cX9_append 17 = .ok (.aload_n 0, 1) := by decide +kernel
theorem dX9_append_18 : decode cX9_append 18 = .ok (.getfield 11, 3) := by decide +kernel
theorem dX9_append_21 : decode cX9_append 21 = .ok (.aload_n 0, 1) := by decide +kernel
theorem dX9_append_22 : decode cX9_append 22 = .ok (.getfield 19, 3) := by decide +kernel
theorem dX9_append_25 : decode cX9_append 25 = .ok (.iload_n 1, 1) := by decide +kernel
theorem dX9_append_26 : decode cX9_append 26 = .ok (.iload_n 2, 1) := by decide +kernel
theorem dX9_append_27 : decode cX9_append 27 = .ok (.iushr, 1) := by decide +kernel
theorem dX9_append_28 : decode cX9_append 28 = .ok (.i2b, 1) := by decide +kernel
theorem dX9_append_29 : decode cX9_append 29 = .ok (.bastore, 1) := by decide +kernel
theorem dX9_append_30 : decode cX9_append 30 = .ok (.aload_n 0, 1) := by decide +kernel
theorem dX9_append_31 : decode cX9_append 31 = .ok (.dup, 1) := by decide +kernel
theorem dX9_append_32 : decode cX9_append 32 = .ok (.getfield 19, 3) := by decide +kernel
theorem dX9_append_35 : decode cX9_append 35 = .ok (.iconst 1, 1) := by decide +kernel
theorem dX9_append_36 : decode cX9_append 36 = .ok (.iadd, 1) := by decide +kernel
theorem dX9_append_37 : decode cX9_append 37 = .ok (.putfield 19, 3) := by decide +kernel
theorem dX9_append_40 : decode cX9_append 40 = .ok (.iinc 2 (-8), 3) := by decide +kernel
theorem dX9_append_43 : decode cX9_append 43 = .ok (.goto (-40), 3) := by decide +kernel
theorem dX9_append_46 : decode cX9_append 46 = .ok (.return_, 1) := by decide +kernel
def w_c_X9_append_0 : List Cond := .code yX9_append cX9_append 3 none :: ([.fieldLink RX9 19 "OnePassport$Tape" "length" "I", .fieldLink RX9 11 "OnePassport$Tape" "bytes" "[B"] ++ wsX90)
theorem i_c_X9_append_0_X9 : ∀ w ∈ wsX90, w ∈ w_c_X9_append_0 := fun _ h => List.mem_cons_of_mem _ (List.mem_append_right _ h)
set_option maxHeartbeats 4000000 in
set_option maxRecDepth 100000 in
theorem c_X9_append_0 (l : Launch) (dC : Nat → ClassId) (dI : Nat → Nat → Nat) (cB : ClassId) (h0 : Nat) (tb : Nat) (p0 : Int32) (g0 : Nat → Int32) (sz : Nat) : Met l yX9_append w_c_X9_append_0 ({ frames := 0, cells := 0, slots := 0, locals := 0 }) (va_Pc [.ref h0, .int p0] (fun U => U.heap.size = sz ∧ va_P (dC, dI) vwCl [(h0, .inr (9, [.ref tb, .int 0, .int 0, .int (-1), .int 0, .int 0, .int 0])), (tb, .inl (cB, 600, .inl (g0)))] U.heap ∧ va_K (dC, dI) vwCl [(cB, .byte)] U ∧ va_D (fun _ => True) [(h0, .inr (9, [.ref tb, .int 0, .int 0, .int (-1), .int 0, .int 0, .int 0])), (tb, .inl (cB, 600, .inl (g0)))])) (va_Qv (fun _ : Unit => True) (fun (_ : Unit) (t : State) => ∃ (g1 : Nat → Int32), va_P (dC, dI) vwCl [(h0, .inr (9, [.ref tb, .int 4, .int 0, .int (-1), .int 0, .int 0, .int 0])), (tb, .inl (cB, 600, .inl (g1)))] t.heap ∧ va_K (dC, dI) vwCl [(cB, .byte)] t ∧ va_D (va_A [(h0, .inr (9, [.ref tb, .int 0, .int 0, .int (-1), .int 0, .int 0, .int 0])), (tb, .inl (cB, 600, .inl (g0)))] sz) [(h0, .inr (9, [.ref tb, .int 4, .int 0, .int (-1), .int 0, .int 0, .int 0])), (tb, .inl (cB, 600, .inl (g1)))]) (va_A [(h0, .inr (9, [.ref tb, .int 0, .int 0, .int (-1), .int 0, .int 0, .int 0])), (tb, .inl (cB, 600, .inl (g0)))] sz)) 0 0 (va_A [(h0, .inr (9, [.ref tb, .int 0, .int 0, .int (-1), .int 0, .int 0, .int 0])), (tb, .inl (cB, 600, .inl (g0)))] sz) := by
  refine Met.ofW (cc := cX9_append) (maxL := 3) (ret := none) (by decide) rfl ?_
  intro p e s m args below meth c s₁ B hml hv
  obtain ⟨rfl, hsz, hP, hK, hD0⟩ := hv
  have hx := B.exec
  have hb := B.bytes
  have hr := B.returns
  have hts := atoms_spec (ws := w_c_X9_append_0) B.pre
  have hown : s.vm.findClass RX9 = some m.cls := findClass_of_methodNamed B.named
  have hlocks := B.notSynchronized
  subst hsz
  have hD := hD0.self (sz := s.heap.size)
  generalize hAe : va_A [(h0, .inr (9, [.ref tb, .int 0, .int 0, .int (-1), .int 0, .int 0, .int 0])), (tb, .inl (cB, 600, .inl (g0)))] s.heap.size = A at hD ⊢
  have hA : ∀ q : Nat, s.heap.size ≤ q → A q := fun q h => by rw [← hAe]; exact Or.inr h
  have hS : va_S A s.heap s.heap [] := va_S.rf
  have hP : va_P (dC, dI) vwCl [(h0, .inr (9, [.ref tb, .int 0, .int 0, .int (-1), .int 0, .int 0, .int 0])), (tb, .inl (cB, 600, .inl (g0)))] s.heap := hP
  have hl := lv_entry ([.ref h0, .int p0]) (n := 3) (Nat.le_of_ble_eq_true rfl)
  rw [lg_entry_eq]
  generalize (lg_sl ([.ref h0, .int p0]) ++ List.replicate (3 - (lg_sl ([.ref h0, .int p0])).length) Slot.unset).toArray = ls at hl ⊢
  have hl : lv_has ls 3 [(0, .ref h0), (1, .int p0)] := hl
  refine lv_bipush (v := 24) hx hb dX9_append_0 (by decide) ?_
  refine lv_istore_n (lv' := [(2, .int 24), (0, .ref h0), (1, .int p0)]) hx hb dX9_append_2 rfl hl (by decide) rfl (fun ls hl => ?_)
  refine lv_iload_n hx hb dX9_append_3 rfl (lv_at hl 0 rfl) ?_
  refine lv_if_lt (tgt := 46) hx hb dX9_append_4 (by decide) (fun c_1 => absurd c_1 (by decide)) (fun c_1 => ?_)
  refine lv_aload_n hx hb dX9_append_7 rfl (lv_at hl 1 rfl) ?_
  refine va_get (D := (dC, dI)) (ci := 9) (v := .int 0) (C := RX9) (T := TX9) (N := 7) hx hb hts i_c_X9_append_0_X9 hown hK hP 0 rfl rfl 1 (by decide) (hts (.fieldLink RX9 19 "OnePassport$Tape" "length" "I") (List.mem_of_getElem? (i := 1) rfl)) (fun _ h9 => h9) rfl dX9_append_8 ?_
  refine lv_sipush (v := 600) hx hb dX9_append_11 (by decide) ?_
  refine lv_icmp_ge (tgt := 46) hx hb dX9_append_14 (by decide) (fun c_2 => absurd c_2 (by decide)) (fun c_2 => ?_)
  refine lv_aload_n hx hb dX9_append_17 rfl (lv_at hl 1 rfl) ?_
  refine va_get (D := (dC, dI)) (ci := 9) (v := .ref tb) (C := RX9) (T := TX9) (N := 7) hx hb hts i_c_X9_append_0_X9 hown hK hP 0 rfl rfl 0 (by decide) (hts (.fieldLink RX9 11 "OnePassport$Tape" "bytes" "[B") (List.mem_of_getElem? (i := 2) rfl)) (fun _ h9 => h9) rfl dX9_append_18 ?_
  refine lv_aload_n hx hb dX9_append_21 rfl (lv_at hl 1 rfl) ?_
  refine va_get (D := (dC, dI)) (ci := 9) (v := .int 0) (C := RX9) (T := TX9) (N := 7) hx hb hts i_c_X9_append_0_X9 hown hK hP 0 rfl rfl 1 (by decide) (hts (.fieldLink RX9 19 "OnePassport$Tape" "length" "I") (List.mem_of_getElem? (i := 1) rfl)) (fun _ h9 => h9) rfl dX9_append_22 ?_
  refine lv_iload_n hx hb dX9_append_25 rfl (lv_at hl 2 rfl) ?_
  refine lv_iload_n hx hb dX9_append_26 rfl (lv_at hl 0 rfl) ?_
  refine lv_iushr (v := (p0.toUInt32 >>> ((24 : Int32).toUInt32 &&& Int32.toUInt32 31)).toInt32) hx hb dX9_append_27 rfl ?_
  refine lv_i2b (v := ((p0.toUInt32 >>> ((24 : Int32).toUInt32 &&& Int32.toUInt32 31)).toInt32).toInt8.toInt32) hx hb dX9_append_28 rfl ?_
  refine va_bast hx hb hK hP hD hS 1 0 rfl rfl (i := 0) (x := ((p0.toUInt32 >>> ((24 : Int32).toUInt32 &&& Int32.toUInt32 31)).toInt32).toInt8.toInt32) (by unfold vp_in; decide) dX9_append_29 (fun H locs hP hD hS => ?_)
  have hP : va_P (dC, dI) vwCl [(h0, .inr (9, [.ref tb, .int 0, .int 0, .int (-1), .int 0, .int 0, .int 0])), (tb, .inl (cB, 600, .inl (upd (g0) (0 : Int32).toNatClampNeg (vp_nar .byte (((p0.toUInt32 >>> ((24 : Int32).toUInt32 &&& Int32.toUInt32 31)).toInt32).toInt8.toInt32)))))] H := hP
  have hD : va_D A [(h0, .inr (9, [.ref tb, .int 0, .int 0, .int (-1), .int 0, .int 0, .int 0])), (tb, .inl (cB, 600, .inl (upd (g0) (0 : Int32).toNatClampNeg (vp_nar .byte (((p0.toUInt32 >>> ((24 : Int32).toUInt32 &&& Int32.toUInt32 31)).toInt32).toInt8.toInt32)))))] := hD
  refine lv_aload_n hx hb dX9_append_30 rfl (lv_at hl 1 rfl) ?_
  refine lv_dup hx hb dX9_append_31 rfl ?_
  refine va_get (D := (dC, dI)) (ci := 9) (v := .int 0) (C := RX9) (T := TX9) (N := 7) hx hb hts i_c_X9_append_0_X9 hown hK hP 0 rfl rfl 1 (by decide) (hts (.fieldLink RX9 19 "OnePassport$Tape" "length" "I") (List.mem_of_getElem? (i := 1) rfl)) (fun _ h9 => h9) rfl dX9_append_32 ?_
  refine lv_iconst (v := 1) hx hb dX9_append_35 (by decide) ?_
  refine lv_iadd hx hb dX9_append_36 ?_
  refine wx_ti (y := 1) (by decide) ?_
  refine va_put (D := (dC, dI)) (ci := 9) (v := .int 1) (ty := .int) (C := RX9) (T := TX9) (N := 7) hx hb hts i_c_X9_append_0_X9 tyX9 tyX9_ok nmX9 hown hK hP hD hS 0 rfl rfl 1 (by decide) (hts (.fieldLink RX9 19 "OnePassport$Tape" "length" "I") (List.mem_of_getElem? (i := 1) rfl)) (fun _ h9 => h9) rfl (by decide +kernel) rfl rfl (Nat.le_of_ble_eq_true rfl) dX9_append_37 (fun H locs hP hD hS => ?_)
  have hP : va_P (dC, dI) vwCl [(h0, .inr (9, [.ref tb, .int 1, .int 0, .int (-1), .int 0, .int 0, .int 0])), (tb, .inl (cB, 600, .inl (upd (g0) (0 : Int32).toNatClampNeg (vp_nar .byte (((p0.toUInt32 >>> ((24 : Int32).toUInt32 &&& Int32.toUInt32 31)).toInt32).toInt8.toInt32)))))] H := hP
  have hD : va_D A [(h0, .inr (9, [.ref tb, .int 1, .int 0, .int (-1), .int 0, .int 0, .int 0])), (tb, .inl (cB, 600, .inl (upd (g0) (0 : Int32).toNatClampNeg (vp_nar .byte (((p0.toUInt32 >>> ((24 : Int32).toUInt32 &&& Int32.toUInt32 31)).toInt32).toInt8.toInt32)))))] := hD
  refine lv_iinc (v := 16) (lv' := [(2, .int 16), (0, .ref h0), (1, .int p0)]) hx hb dX9_append_40 hl (k := 0) rfl (by decide) (by decide) rfl (fun ls hl => ?_)
  refine lv_goto (tgt := 3) hx hb dX9_append_43 (by decide) ?_
  refine lv_iload_n hx hb dX9_append_3 rfl (lv_at hl 0 rfl) ?_
  refine lv_if_lt (tgt := 46) hx hb dX9_append_4 (by decide) (fun c_3 => absurd c_3 (by decide)) (fun c_3 => ?_)
  refine lv_aload_n hx hb dX9_append_7 rfl (lv_at hl 1 rfl) ?_
  refine va_get (D := (dC, dI)) (ci := 9) (v := .int 1) (C := RX9) (T := TX9) (N := 7) hx hb hts i_c_X9_append_0_X9 hown hK hP 0 rfl rfl 1 (by decide) (hts (.fieldLink RX9 19 "OnePassport$Tape" "length" "I") (List.mem_of_getElem? (i := 1) rfl)) (fun _ h9 => h9) rfl dX9_append_8 ?_
  refine lv_sipush (v := 600) hx hb dX9_append_11 (by decide) ?_
  refine lv_icmp_ge (tgt := 46) hx hb dX9_append_14 (by decide) (fun c_4 => absurd c_4 (by decide)) (fun c_4 => ?_)
  refine lv_aload_n hx hb dX9_append_17 rfl (lv_at hl 1 rfl) ?_
  refine va_get (D := (dC, dI)) (ci := 9) (v := .ref tb) (C := RX9) (T := TX9) (N := 7) hx hb hts i_c_X9_append_0_X9 hown hK hP 0 rfl rfl 0 (by decide) (hts (.fieldLink RX9 11 "OnePassport$Tape" "bytes" "[B") (List.mem_of_getElem? (i := 2) rfl)) (fun _ h9 => h9) rfl dX9_append_18 ?_
  refine lv_aload_n hx hb dX9_append_21 rfl (lv_at hl 1 rfl) ?_
  refine va_get (D := (dC, dI)) (ci := 9) (v := .int 1) (C := RX9) (T := TX9) (N := 7) hx hb hts i_c_X9_append_0_X9 hown hK hP 0 rfl rfl 1 (by decide) (hts (.fieldLink RX9 19 "OnePassport$Tape" "length" "I") (List.mem_of_getElem? (i := 1) rfl)) (fun _ h9 => h9) rfl dX9_append_22 ?_
  refine lv_iload_n hx hb dX9_append_25 rfl (lv_at hl 2 rfl) ?_
  refine lv_iload_n hx hb dX9_append_26 rfl (lv_at hl 0 rfl) ?_
  refine lv_iushr (v := (p0.toUInt32 >>> ((16 : Int32).toUInt32 &&& Int32.toUInt32 31)).toInt32) hx hb dX9_append_27 rfl ?_
  refine lv_i2b (v := ((p0.toUInt32 >>> ((16 : Int32).toUInt32 &&& Int32.toUInt32 31)).toInt32).toInt8.toInt32) hx hb dX9_append_28 rfl ?_
  refine va_bast hx hb hK hP hD hS 1 0 rfl rfl (i := 1) (x := ((p0.toUInt32 >>> ((16 : Int32).toUInt32 &&& Int32.toUInt32 31)).toInt32).toInt8.toInt32) (by unfold vp_in; decide) dX9_append_29 (fun H locs hP hD hS => ?_)
  have hP : va_P (dC, dI) vwCl [(h0, .inr (9, [.ref tb, .int 1, .int 0, .int (-1), .int 0, .int 0, .int 0])), (tb, .inl (cB, 600, .inl (upd (upd (g0) (0 : Int32).toNatClampNeg (vp_nar .byte (((p0.toUInt32 >>> ((24 : Int32).toUInt32 &&& Int32.toUInt32 31)).toInt32).toInt8.toInt32))) (1 : Int32).toNatClampNeg (vp_nar .byte (((p0.toUInt32 >>> ((16 : Int32).toUInt32 &&& Int32.toUInt32 31)).toInt32).toInt8.toInt32)))))] H := hP
  have hD : va_D A [(h0, .inr (9, [.ref tb, .int 1, .int 0, .int (-1), .int 0, .int 0, .int 0])), (tb, .inl (cB, 600, .inl (upd (upd (g0) (0 : Int32).toNatClampNeg (vp_nar .byte (((p0.toUInt32 >>> ((24 : Int32).toUInt32 &&& Int32.toUInt32 31)).toInt32).toInt8.toInt32))) (1 : Int32).toNatClampNeg (vp_nar .byte (((p0.toUInt32 >>> ((16 : Int32).toUInt32 &&& Int32.toUInt32 31)).toInt32).toInt8.toInt32)))))] := hD
  refine lv_aload_n hx hb dX9_append_30 rfl (lv_at hl 1 rfl) ?_
  refine lv_dup hx hb dX9_append_31 rfl ?_
  refine va_get (D := (dC, dI)) (ci := 9) (v := .int 1) (C := RX9) (T := TX9) (N := 7) hx hb hts i_c_X9_append_0_X9 hown hK hP 0 rfl rfl 1 (by decide) (hts (.fieldLink RX9 19 "OnePassport$Tape" "length" "I") (List.mem_of_getElem? (i := 1) rfl)) (fun _ h9 => h9) rfl dX9_append_32 ?_
  refine lv_iconst (v := 1) hx hb dX9_append_35 (by decide) ?_
  refine lv_iadd hx hb dX9_append_36 ?_
  refine wx_ti (y := 2) (by decide) ?_
  refine va_put (D := (dC, dI)) (ci := 9) (v := .int 2) (ty := .int) (C := RX9) (T := TX9) (N := 7) hx hb hts i_c_X9_append_0_X9 tyX9 tyX9_ok nmX9 hown hK hP hD hS 0 rfl rfl 1 (by decide) (hts (.fieldLink RX9 19 "OnePassport$Tape" "length" "I") (List.mem_of_getElem? (i := 1) rfl)) (fun _ h9 => h9) rfl (by decide +kernel) rfl rfl (Nat.le_of_ble_eq_true rfl) dX9_append_37 (fun H locs hP hD hS => ?_)
  have hP : va_P (dC, dI) vwCl [(h0, .inr (9, [.ref tb, .int 2, .int 0, .int (-1), .int 0, .int 0, .int 0])), (tb, .inl (cB, 600, .inl (upd (upd (g0) (0 : Int32).toNatClampNeg (vp_nar .byte (((p0.toUInt32 >>> ((24 : Int32).toUInt32 &&& Int32.toUInt32 31)).toInt32).toInt8.toInt32))) (1 : Int32).toNatClampNeg (vp_nar .byte (((p0.toUInt32 >>> ((16 : Int32).toUInt32 &&& Int32.toUInt32 31)).toInt32).toInt8.toInt32)))))] H := hP
  have hD : va_D A [(h0, .inr (9, [.ref tb, .int 2, .int 0, .int (-1), .int 0, .int 0, .int 0])), (tb, .inl (cB, 600, .inl (upd (upd (g0) (0 : Int32).toNatClampNeg (vp_nar .byte (((p0.toUInt32 >>> ((24 : Int32).toUInt32 &&& Int32.toUInt32 31)).toInt32).toInt8.toInt32))) (1 : Int32).toNatClampNeg (vp_nar .byte (((p0.toUInt32 >>> ((16 : Int32).toUInt32 &&& Int32.toUInt32 31)).toInt32).toInt8.toInt32)))))] := hD
  refine lv_iinc (v := 8) (lv' := [(2, .int 8), (0, .ref h0), (1, .int p0)]) hx hb dX9_append_40 hl (k := 0) rfl (by decide) (by decide) rfl (fun ls hl => ?_)
  refine lv_goto (tgt := 3) hx hb dX9_append_43 (by decide) ?_
  refine lv_iload_n hx hb dX9_append_3 rfl (lv_at hl 0 rfl) ?_
  refine lv_if_lt (tgt := 46) hx hb dX9_append_4 (by decide) (fun c_5 => absurd c_5 (by decide)) (fun c_5 => ?_)
  refine lv_aload_n hx hb dX9_append_7 rfl (lv_at hl 1 rfl) ?_
  refine va_get (D := (dC, dI)) (ci := 9) (v := .int 2) (C := RX9) (T := TX9) (N := 7) hx hb hts i_c_X9_append_0_X9 hown hK hP 0 rfl rfl 1 (by decide) (hts (.fieldLink RX9 19 "OnePassport$Tape" "length" "I") (List.mem_of_getElem? (i := 1) rfl)) (fun _ h9 => h9) rfl dX9_append_8 ?_
  refine lv_sipush (v := 600) hx hb dX9_append_11 (by decide) ?_
  refine lv_icmp_ge (tgt := 46) hx hb dX9_append_14 (by decide) (fun c_6 => absurd c_6 (by decide)) (fun c_6 => ?_)
  refine lv_aload_n hx hb dX9_append_17 rfl (lv_at hl 1 rfl) ?_
  refine va_get (D := (dC, dI)) (ci := 9) (v := .ref tb) (C := RX9) (T := TX9) (N := 7) hx hb hts i_c_X9_append_0_X9 hown hK hP 0 rfl rfl 0 (by decide) (hts (.fieldLink RX9 11 "OnePassport$Tape" "bytes" "[B") (List.mem_of_getElem? (i := 2) rfl)) (fun _ h9 => h9) rfl dX9_append_18 ?_
  refine lv_aload_n hx hb dX9_append_21 rfl (lv_at hl 1 rfl) ?_
  refine va_get (D := (dC, dI)) (ci := 9) (v := .int 2) (C := RX9) (T := TX9) (N := 7) hx hb hts i_c_X9_append_0_X9 hown hK hP 0 rfl rfl 1 (by decide) (hts (.fieldLink RX9 19 "OnePassport$Tape" "length" "I") (List.mem_of_getElem? (i := 1) rfl)) (fun _ h9 => h9) rfl dX9_append_22 ?_
  refine lv_iload_n hx hb dX9_append_25 rfl (lv_at hl 2 rfl) ?_
  refine lv_iload_n hx hb dX9_append_26 rfl (lv_at hl 0 rfl) ?_
  refine lv_iushr (v := (p0.toUInt32 >>> ((8 : Int32).toUInt32 &&& Int32.toUInt32 31)).toInt32) hx hb dX9_append_27 rfl ?_
  refine lv_i2b (v := ((p0.toUInt32 >>> ((8 : Int32).toUInt32 &&& Int32.toUInt32 31)).toInt32).toInt8.toInt32) hx hb dX9_append_28 rfl ?_
  refine va_bast hx hb hK hP hD hS 1 0 rfl rfl (i := 2) (x := ((p0.toUInt32 >>> ((8 : Int32).toUInt32 &&& Int32.toUInt32 31)).toInt32).toInt8.toInt32) (by unfold vp_in; decide) dX9_append_29 (fun H locs hP hD hS => ?_)
  have hP : va_P (dC, dI) vwCl [(h0, .inr (9, [.ref tb, .int 2, .int 0, .int (-1), .int 0, .int 0, .int 0])), (tb, .inl (cB, 600, .inl (upd (upd (upd (g0) (0 : Int32).toNatClampNeg (vp_nar .byte (((p0.toUInt32 >>> ((24 : Int32).toUInt32 &&& Int32.toUInt32 31)).toInt32).toInt8.toInt32))) (1 : Int32).toNatClampNeg (vp_nar .byte (((p0.toUInt32 >>> ((16 : Int32).toUInt32 &&& Int32.toUInt32 31)).toInt32).toInt8.toInt32))) (2 : Int32).toNatClampNeg (vp_nar .byte (((p0.toUInt32 >>> ((8 : Int32).toUInt32 &&& Int32.toUInt32 31)).toInt32).toInt8.toInt32)))))] H := hP
  have hD : va_D A [(h0, .inr (9, [.ref tb, .int 2, .int 0, .int (-1), .int 0, .int 0, .int 0])), (tb, .inl (cB, 600, .inl (upd (upd (upd (g0) (0 : Int32).toNatClampNeg (vp_nar .byte (((p0.toUInt32 >>> ((24 : Int32).toUInt32 &&& Int32.toUInt32 31)).toInt32).toInt8.toInt32))) (1 : Int32).toNatClampNeg (vp_nar .byte (((p0.toUInt32 >>> ((16 : Int32).toUInt32 &&& Int32.toUInt32 31)).toInt32).toInt8.toInt32))) (2 : Int32).toNatClampNeg (vp_nar .byte (((p0.toUInt32 >>> ((8 : Int32).toUInt32 &&& Int32.toUInt32 31)).toInt32).toInt8.toInt32)))))] := hD
  refine lv_aload_n hx hb dX9_append_30 rfl (lv_at hl 1 rfl) ?_
  refine lv_dup hx hb dX9_append_31 rfl ?_
  refine va_get (D := (dC, dI)) (ci := 9) (v := .int 2) (C := RX9) (T := TX9) (N := 7) hx hb hts i_c_X9_append_0_X9 hown hK hP 0 rfl rfl 1 (by decide) (hts (.fieldLink RX9 19 "OnePassport$Tape" "length" "I") (List.mem_of_getElem? (i := 1) rfl)) (fun _ h9 => h9) rfl dX9_append_32 ?_
  refine lv_iconst (v := 1) hx hb dX9_append_35 (by decide) ?_
  refine lv_iadd hx hb dX9_append_36 ?_
  refine wx_ti (y := 3) (by decide) ?_
  refine va_put (D := (dC, dI)) (ci := 9) (v := .int 3) (ty := .int) (C := RX9) (T := TX9) (N := 7) hx hb hts i_c_X9_append_0_X9 tyX9 tyX9_ok nmX9 hown hK hP hD hS 0 rfl rfl 1 (by decide) (hts (.fieldLink RX9 19 "OnePassport$Tape" "length" "I") (List.mem_of_getElem? (i := 1) rfl)) (fun _ h9 => h9) rfl (by decide +kernel) rfl rfl (Nat.le_of_ble_eq_true rfl) dX9_append_37 (fun H locs hP hD hS => ?_)
  have hP : va_P (dC, dI) vwCl [(h0, .inr (9, [.ref tb, .int 3, .int 0, .int (-1), .int 0, .int 0, .int 0])), (tb, .inl (cB, 600, .inl (upd (upd (upd (g0) (0 : Int32).toNatClampNeg (vp_nar .byte (((p0.toUInt32 >>> ((24 : Int32).toUInt32 &&& Int32.toUInt32 31)).toInt32).toInt8.toInt32))) (1 : Int32).toNatClampNeg (vp_nar .byte (((p0.toUInt32 >>> ((16 : Int32).toUInt32 &&& Int32.toUInt32 31)).toInt32).toInt8.toInt32))) (2 : Int32).toNatClampNeg (vp_nar .byte (((p0.toUInt32 >>> ((8 : Int32).toUInt32 &&& Int32.toUInt32 31)).toInt32).toInt8.toInt32)))))] H := hP
  have hD : va_D A [(h0, .inr (9, [.ref tb, .int 3, .int 0, .int (-1), .int 0, .int 0, .int 0])), (tb, .inl (cB, 600, .inl (upd (upd (upd (g0) (0 : Int32).toNatClampNeg (vp_nar .byte (((p0.toUInt32 >>> ((24 : Int32).toUInt32 &&& Int32.toUInt32 31)).toInt32).toInt8.toInt32))) (1 : Int32).toNatClampNeg (vp_nar .byte (((p0.toUInt32 >>> ((16 : Int32).toUInt32 &&& Int32.toUInt32 31)).toInt32).toInt8.toInt32))) (2 : Int32).toNatClampNeg (vp_nar .byte (((p0.toUInt32 >>> ((8 : Int32).toUInt32 &&& Int32.toUInt32 31)).toInt32).toInt8.toInt32)))))] := hD
  refine lv_iinc (v := 0) (lv' := [(2, .int 0), (0, .ref h0), (1, .int p0)]) hx hb dX9_append_40 hl (k := 0) rfl (by decide) (by decide) rfl (fun ls hl => ?_)
  refine lv_goto (tgt := 3) hx hb dX9_append_43 (by decide) ?_
  refine lv_iload_n hx hb dX9_append_3 rfl (lv_at hl 0 rfl) ?_
  refine lv_if_lt (tgt := 46) hx hb dX9_append_4 (by decide) (fun c_7 => absurd c_7 (by decide)) (fun c_7 => ?_)
  refine lv_aload_n hx hb dX9_append_7 rfl (lv_at hl 1 rfl) ?_
  refine va_get (D := (dC, dI)) (ci := 9) (v := .int 3) (C := RX9) (T := TX9) (N := 7) hx hb hts i_c_X9_append_0_X9 hown hK hP 0 rfl rfl 1 (by decide) (hts (.fieldLink RX9 19 "OnePassport$Tape" "length" "I") (List.mem_of_getElem? (i := 1) rfl)) (fun _ h9 => h9) rfl dX9_append_8 ?_
  refine lv_sipush (v := 600) hx hb dX9_append_11 (by decide) ?_
  refine lv_icmp_ge (tgt := 46) hx hb dX9_append_14 (by decide) (fun c_8 => absurd c_8 (by decide)) (fun c_8 => ?_)
  refine lv_aload_n hx hb dX9_append_17 rfl (lv_at hl 1 rfl) ?_
  refine va_get (D := (dC, dI)) (ci := 9) (v := .ref tb) (C := RX9) (T := TX9) (N := 7) hx hb hts i_c_X9_append_0_X9 hown hK hP 0 rfl rfl 0 (by decide) (hts (.fieldLink RX9 11 "OnePassport$Tape" "bytes" "[B") (List.mem_of_getElem? (i := 2) rfl)) (fun _ h9 => h9) rfl dX9_append_18 ?_
  refine lv_aload_n hx hb dX9_append_21 rfl (lv_at hl 1 rfl) ?_
  refine va_get (D := (dC, dI)) (ci := 9) (v := .int 3) (C := RX9) (T := TX9) (N := 7) hx hb hts i_c_X9_append_0_X9 hown hK hP 0 rfl rfl 1 (by decide) (hts (.fieldLink RX9 19 "OnePassport$Tape" "length" "I") (List.mem_of_getElem? (i := 1) rfl)) (fun _ h9 => h9) rfl dX9_append_22 ?_
  refine lv_iload_n hx hb dX9_append_25 rfl (lv_at hl 2 rfl) ?_
  refine lv_iload_n hx hb dX9_append_26 rfl (lv_at hl 0 rfl) ?_
  refine lv_iushr (v := (p0.toUInt32 >>> ((0 : Int32).toUInt32 &&& Int32.toUInt32 31)).toInt32) hx hb dX9_append_27 rfl ?_
  refine lv_i2b (v := ((p0.toUInt32 >>> ((0 : Int32).toUInt32 &&& Int32.toUInt32 31)).toInt32).toInt8.toInt32) hx hb dX9_append_28 rfl ?_
  refine va_bast hx hb hK hP hD hS 1 0 rfl rfl (i := 3) (x := ((p0.toUInt32 >>> ((0 : Int32).toUInt32 &&& Int32.toUInt32 31)).toInt32).toInt8.toInt32) (by unfold vp_in; decide) dX9_append_29 (fun H locs hP hD hS => ?_)
  have hP : va_P (dC, dI) vwCl [(h0, .inr (9, [.ref tb, .int 3, .int 0, .int (-1), .int 0, .int 0, .int 0])), (tb, .inl (cB, 600, .inl (upd (upd (upd (upd (g0) (0 : Int32).toNatClampNeg (vp_nar .byte (((p0.toUInt32 >>> ((24 : Int32).toUInt32 &&& Int32.toUInt32 31)).toInt32).toInt8.toInt32))) (1 : Int32).toNatClampNeg (vp_nar .byte (((p0.toUInt32 >>> ((16 : Int32).toUInt32 &&& Int32.toUInt32 31)).toInt32).toInt8.toInt32))) (2 : Int32).toNatClampNeg (vp_nar .byte (((p0.toUInt32 >>> ((8 : Int32).toUInt32 &&& Int32.toUInt32 31)).toInt32).toInt8.toInt32))) (3 : Int32).toNatClampNeg (vp_nar .byte (((p0.toUInt32 >>> ((0 : Int32).toUInt32 &&& Int32.toUInt32 31)).toInt32).toInt8.toInt32)))))] H := hP
  have hD : va_D A [(h0, .inr (9, [.ref tb, .int 3, .int 0, .int (-1), .int 0, .int 0, .int 0])), (tb, .inl (cB, 600, .inl (upd (upd (upd (upd (g0) (0 : Int32).toNatClampNeg (vp_nar .byte (((p0.toUInt32 >>> ((24 : Int32).toUInt32 &&& Int32.toUInt32 31)).toInt32).toInt8.toInt32))) (1 : Int32).toNatClampNeg (vp_nar .byte (((p0.toUInt32 >>> ((16 : Int32).toUInt32 &&& Int32.toUInt32 31)).toInt32).toInt8.toInt32))) (2 : Int32).toNatClampNeg (vp_nar .byte (((p0.toUInt32 >>> ((8 : Int32).toUInt32 &&& Int32.toUInt32 31)).toInt32).toInt8.toInt32))) (3 : Int32).toNatClampNeg (vp_nar .byte (((p0.toUInt32 >>> ((0 : Int32).toUInt32 &&& Int32.toUInt32 31)).toInt32).toInt8.toInt32)))))] := hD
  refine lv_aload_n hx hb dX9_append_30 rfl (lv_at hl 1 rfl) ?_
  refine lv_dup hx hb dX9_append_31 rfl ?_
  refine va_get (D := (dC, dI)) (ci := 9) (v := .int 3) (C := RX9) (T := TX9) (N := 7) hx hb hts i_c_X9_append_0_X9 hown hK hP 0 rfl rfl 1 (by decide) (hts (.fieldLink RX9 19 "OnePassport$Tape" "length" "I") (List.mem_of_getElem? (i := 1) rfl)) (fun _ h9 => h9) rfl dX9_append_32 ?_
  refine lv_iconst (v := 1) hx hb dX9_append_35 (by decide) ?_
  refine lv_iadd hx hb dX9_append_36 ?_
  refine wx_ti (y := 4) (by decide) ?_
  refine va_put (D := (dC, dI)) (ci := 9) (v := .int 4) (ty := .int) (C := RX9) (T := TX9) (N := 7) hx hb hts i_c_X9_append_0_X9 tyX9 tyX9_ok nmX9 hown hK hP hD hS 0 rfl rfl 1 (by decide) (hts (.fieldLink RX9 19 "OnePassport$Tape" "length" "I") (List.mem_of_getElem? (i := 1) rfl)) (fun _ h9 => h9) rfl (by decide +kernel) rfl rfl (Nat.le_of_ble_eq_true rfl) dX9_append_37 (fun H locs hP hD hS => ?_)
  have hP : va_P (dC, dI) vwCl [(h0, .inr (9, [.ref tb, .int 4, .int 0, .int (-1), .int 0, .int 0, .int 0])), (tb, .inl (cB, 600, .inl (upd (upd (upd (upd (g0) (0 : Int32).toNatClampNeg (vp_nar .byte (((p0.toUInt32 >>> ((24 : Int32).toUInt32 &&& Int32.toUInt32 31)).toInt32).toInt8.toInt32))) (1 : Int32).toNatClampNeg (vp_nar .byte (((p0.toUInt32 >>> ((16 : Int32).toUInt32 &&& Int32.toUInt32 31)).toInt32).toInt8.toInt32))) (2 : Int32).toNatClampNeg (vp_nar .byte (((p0.toUInt32 >>> ((8 : Int32).toUInt32 &&& Int32.toUInt32 31)).toInt32).toInt8.toInt32))) (3 : Int32).toNatClampNeg (vp_nar .byte (((p0.toUInt32 >>> ((0 : Int32).toUInt32 &&& Int32.toUInt32 31)).toInt32).toInt8.toInt32)))))] H := hP
  have hD : va_D A [(h0, .inr (9, [.ref tb, .int 4, .int 0, .int (-1), .int 0, .int 0, .int 0])), (tb, .inl (cB, 600, .inl (upd (upd (upd (upd (g0) (0 : Int32).toNatClampNeg (vp_nar .byte (((p0.toUInt32 >>> ((24 : Int32).toUInt32 &&& Int32.toUInt32 31)).toInt32).toInt8.toInt32))) (1 : Int32).toNatClampNeg (vp_nar .byte (((p0.toUInt32 >>> ((16 : Int32).toUInt32 &&& Int32.toUInt32 31)).toInt32).toInt8.toInt32))) (2 : Int32).toNatClampNeg (vp_nar .byte (((p0.toUInt32 >>> ((8 : Int32).toUInt32 &&& Int32.toUInt32 31)).toInt32).toInt8.toInt32))) (3 : Int32).toNatClampNeg (vp_nar .byte (((p0.toUInt32 >>> ((0 : Int32).toUInt32 &&& Int32.toUInt32 31)).toInt32).toInt8.toInt32)))))] := hD
  refine lv_iinc (v := (-8)) (lv' := [(2, .int (-8)), (0, .ref h0), (1, .int p0)]) hx hb dX9_append_40 hl (k := 0) rfl (by decide) (by decide) rfl (fun ls hl => ?_)
  refine lv_goto (tgt := 3) hx hb dX9_append_43 (by decide) ?_
  refine lv_iload_n hx hb dX9_append_3 rfl (lv_at hl 0 rfl) ?_
  refine lv_if_lt (tgt := 46) hx hb dX9_append_4 (by decide) (fun c_9 => ?_) (fun c_9 => absurd (by decide) c_9)
  have hP9 := hP.sub (ws' := [(h0, .inr (9, [.ref tb, .int 4, .int 0, .int (-1), .int 0, .int 0, .int 0])), (tb, .inl (cB, 600, .inl ((upd (upd (upd (upd (g0) (0 : Int32).toNatClampNeg (vp_nar .byte (((p0.toUInt32 >>> ((24 : Int32).toUInt32 &&& Int32.toUInt32 31)).toInt32).toInt8.toInt32))) (1 : Int32).toNatClampNeg (vp_nar .byte (((p0.toUInt32 >>> ((16 : Int32).toUInt32 &&& Int32.toUInt32 31)).toInt32).toInt8.toInt32))) (2 : Int32).toNatClampNeg (vp_nar .byte (((p0.toUInt32 >>> ((8 : Int32).toUInt32 &&& Int32.toUInt32 31)).toInt32).toInt8.toInt32))) (3 : Int32).toNatClampNeg (vp_nar .byte (((p0.toUInt32 >>> ((0 : Int32).toUInt32 &&& Int32.toUInt32 31)).toInt32).toInt8.toInt32))))))]) [0, 1] rfl
  have hD9 := hD.sub (ws' := [(h0, .inr (9, [.ref tb, .int 4, .int 0, .int (-1), .int 0, .int 0, .int 0])), (tb, .inl (cB, 600, .inl ((upd (upd (upd (upd (g0) (0 : Int32).toNatClampNeg (vp_nar .byte (((p0.toUInt32 >>> ((24 : Int32).toUInt32 &&& Int32.toUInt32 31)).toInt32).toInt8.toInt32))) (1 : Int32).toNatClampNeg (vp_nar .byte (((p0.toUInt32 >>> ((16 : Int32).toUInt32 &&& Int32.toUInt32 31)).toInt32).toInt8.toInt32))) (2 : Int32).toNatClampNeg (vp_nar .byte (((p0.toUInt32 >>> ((8 : Int32).toUInt32 &&& Int32.toUInt32 31)).toInt32).toInt8.toInt32))) (3 : Int32).toNatClampNeg (vp_nar .byte (((p0.toUInt32 >>> ((0 : Int32).toUInt32 &&& Int32.toUInt32 31)).toInt32).toInt8.toInt32))))))]) [0, 1] (by decide) rfl
  exact W.vret hx hb hr (fun t ht hW => ⟨⟨(), rfl, trivial, (upd (upd (upd (upd (g0) (0 : Int32).toNatClampNeg (vp_nar .byte (((p0.toUInt32 >>> ((24 : Int32).toUInt32 &&& Int32.toUInt32 31)).toInt32).toInt8.toInt32))) (1 : Int32).toNatClampNeg (vp_nar .byte (((p0.toUInt32 >>> ((16 : Int32).toUInt32 &&& Int32.toUInt32 31)).toInt32).toInt8.toInt32))) (2 : Int32).toNatClampNeg (vp_nar .byte (((p0.toUInt32 >>> ((8 : Int32).toUInt32 &&& Int32.toUInt32 31)).toInt32).toInt8.toInt32))) (3 : Int32).toNatClampNeg (vp_nar .byte (((p0.toUInt32 >>> ((0 : Int32).toUInt32 &&& Int32.toUInt32 31)).toInt32).toInt8.toInt32))), by rw [ht]; exact hP9, va_K.moved hW.alike hK, hD9⟩, hS.F ht⟩) hS.2.2 dX9_append_46


def w_c_X9_append_4 : List Cond := .code yX9_append cX9_append 3 none :: ([.fieldLink RX9 19 "OnePassport$Tape" "length" "I", .fieldLink RX9 11 "OnePassport$Tape" "bytes" "[B"] ++ wsX90)
theorem i_c_X9_append_4_X9 : ∀ w ∈ wsX90, w ∈ w_c_X9_append_4 := fun _ h => List.mem_cons_of_mem _ (List.mem_append_right _ h)
set_option maxHeartbeats 4000000 in
set_option maxRecDepth 100000 in
theorem c_X9_append_4 (l : Launch) (dC : Nat → ClassId) (dI : Nat → Nat → Nat) (cB : ClassId) (h0 : Nat) (tb : Nat) (p0 : Int32) (g0 : Nat → Int32) (sz : Nat) : Met l yX9_append w_c_X9_append_4 ({ frames := 0, cells := 0, slots := 0, locals := 0 }) (va_Pc [.ref h0, .int p0] (fun U => U.heap.size = sz ∧ va_P (dC, dI) vwCl [(h0, .inr (9, [.ref tb, .int 4, .int 0, .int (-1), .int 0, .int 0, .int 0])), (tb, .inl (cB, 600, .inl (g0)))] U.heap ∧ va_K (dC, dI) vwCl [(cB, .byte)] U ∧ va_D (fun _ => True) [(h0, .inr (9, [.ref tb, .int 4, .int 0, .int (-1), .int 0, .int 0, .int 0])), (tb, .inl (cB, 600, .inl (g0)))])) (va_Qv (fun _ : Unit => True) (fun (_ : Unit) (t : State) => ∃ (g1 : Nat → Int32), va_P (dC, dI) vwCl [(h0, .inr (9, [.ref tb, .int 8, .int 0, .int (-1), .int 0, .int 0, .int 0])), (tb, .inl (cB, 600, .inl (g1)))] t.heap ∧ va_K (dC, dI) vwCl [(cB, .byte)] t ∧ va_D (va_A [(h0, .inr (9, [.ref tb, .int 4, .int 0, .int (-1), .int 0, .int 0, .int 0])), (tb, .inl (cB, 600, .inl (g0)))] sz) [(h0, .inr (9, [.ref tb, .int 8, .int 0, .int (-1), .int 0, .int 0, .int 0])), (tb, .inl (cB, 600, .inl (g1)))]) (va_A [(h0, .inr (9, [.ref tb, .int 4, .int 0, .int (-1), .int 0, .int 0, .int 0])), (tb, .inl (cB, 600, .inl (g0)))] sz)) 0 0 (va_A [(h0, .inr (9, [.ref tb, .int 4, .int 0, .int (-1), .int 0, .int 0, .int 0])), (tb, .inl (cB, 600, .inl (g0)))] sz) := by
  refine Met.ofW (cc := cX9_append) (maxL := 3) (ret := none) (by decide) rfl ?_
  intro p e s m args below meth c s₁ B hml hv
  obtain ⟨rfl, hsz, hP, hK, hD0⟩ := hv
  have hx := B.exec
  have hb := B.bytes
  have hr := B.returns
  have hts := atoms_spec (ws := w_c_X9_append_4) B.pre
  have hown : s.vm.findClass RX9 = some m.cls := findClass_of_methodNamed B.named
  have hlocks := B.notSynchronized
  subst hsz
  have hD := hD0.self (sz := s.heap.size)
  generalize hAe : va_A [(h0, .inr (9, [.ref tb, .int 4, .int 0, .int (-1), .int 0, .int 0, .int 0])), (tb, .inl (cB, 600, .inl (g0)))] s.heap.size = A at hD ⊢
  have hA : ∀ q : Nat, s.heap.size ≤ q → A q := fun q h => by rw [← hAe]; exact Or.inr h
  have hS : va_S A s.heap s.heap [] := va_S.rf
  have hP : va_P (dC, dI) vwCl [(h0, .inr (9, [.ref tb, .int 4, .int 0, .int (-1), .int 0, .int 0, .int 0])), (tb, .inl (cB, 600, .inl (g0)))] s.heap := hP
  have hl := lv_entry ([.ref h0, .int p0]) (n := 3) (Nat.le_of_ble_eq_true rfl)
  rw [lg_entry_eq]
  generalize (lg_sl ([.ref h0, .int p0]) ++ List.replicate (3 - (lg_sl ([.ref h0, .int p0])).length) Slot.unset).toArray = ls at hl ⊢
  have hl : lv_has ls 3 [(0, .ref h0), (1, .int p0)] := hl
  refine lv_bipush (v := 24) hx hb dX9_append_0 (by decide) ?_
  refine lv_istore_n (lv' := [(2, .int 24), (0, .ref h0), (1, .int p0)]) hx hb dX9_append_2 rfl hl (by decide) rfl (fun ls hl => ?_)
  refine lv_iload_n hx hb dX9_append_3 rfl (lv_at hl 0 rfl) ?_
  refine lv_if_lt (tgt := 46) hx hb dX9_append_4 (by decide) (fun c_1 => absurd c_1 (by decide)) (fun c_1 => ?_)
  refine lv_aload_n hx hb dX9_append_7 rfl (lv_at hl 1 rfl) ?_
  refine va_get (D := (dC, dI)) (ci := 9) (v := .int 4) (C := RX9) (T := TX9) (N := 7) hx hb hts i_c_X9_append_4_X9 hown hK hP 0 rfl rfl 1 (by decide) (hts (.fieldLink RX9 19 "OnePassport$Tape" "length" "I") (List.mem_of_getElem? (i := 1) rfl)) (fun _ h9 => h9) rfl dX9_append_8 ?_
  refine lv_sipush (v := 600) hx hb dX9_append_11 (by decide) ?_
  refine lv_icmp_ge (tgt := 46) hx hb dX9_append_14 (by decide) (fun c_2 => absurd c_2 (by decide)) (fun c_2 => ?_)
  refine lv_aload_n hx hb dX9_append_17 rfl (lv_at hl 1 rfl) ?_
  refine va_get (D := (dC, dI)) (ci := 9) (v := .ref tb) (C := RX9) (T := TX9) (N := 7) hx hb hts i_c_X9_append_4_X9 hown hK hP 0 rfl rfl 0 (by decide) (hts (.fieldLink RX9 11 "OnePassport$Tape" "bytes" "[B") (List.mem_of_getElem? (i := 2) rfl)) (fun _ h9 => h9) rfl dX9_append_18 ?_
  refine lv_aload_n hx hb dX9_append_21 rfl (lv_at hl 1 rfl) ?_
  refine va_get (D := (dC, dI)) (ci := 9) (v := .int 4) (C := RX9) (T := TX9) (N := 7) hx hb hts i_c_X9_append_4_X9 hown hK hP 0 rfl rfl 1 (by decide) (hts (.fieldLink RX9 19 "OnePassport$Tape" "length" "I") (List.mem_of_getElem? (i := 1) rfl)) (fun _ h9 => h9) rfl dX9_append_22 ?_
  refine lv_iload_n hx hb dX9_append_25 rfl (lv_at hl 2 rfl) ?_
  refine lv_iload_n hx hb dX9_append_26 rfl (lv_at hl 0 rfl) ?_
  refine lv_iushr (v := (p0.toUInt32 >>> ((24 : Int32).toUInt32 &&& Int32.toUInt32 31)).toInt32) hx hb dX9_append_27 rfl ?_
  refine lv_i2b (v := ((p0.toUInt32 >>> ((24 : Int32).toUInt32 &&& Int32.toUInt32 31)).toInt32).toInt8.toInt32) hx hb dX9_append_28 rfl ?_
  refine va_bast hx hb hK hP hD hS 1 0 rfl rfl (i := 4) (x := ((p0.toUInt32 >>> ((24 : Int32).toUInt32 &&& Int32.toUInt32 31)).toInt32).toInt8.toInt32) (by unfold vp_in; decide) dX9_append_29 (fun H locs hP hD hS => ?_)
  have hP : va_P (dC, dI) vwCl [(h0, .inr (9, [.ref tb, .int 4, .int 0, .int (-1), .int 0, .int 0, .int 0])), (tb, .inl (cB, 600, .inl (upd (g0) (4 : Int32).toNatClampNeg (vp_nar .byte (((p0.toUInt32 >>> ((24 : Int32).toUInt32 &&& Int32.toUInt32 31)).toInt32).toInt8.toInt32)))))] H := hP
  have hD : va_D A [(h0, .inr (9, [.ref tb, .int 4, .int 0, .int (-1), .int 0, .int 0, .int 0])), (tb, .inl (cB, 600, .inl (upd (g0) (4 : Int32).toNatClampNeg (vp_nar .byte (((p0.toUInt32 >>> ((24 : Int32).toUInt32 &&& Int32.toUInt32 31)).toInt32).toInt8.toInt32)))))] := hD
  refine lv_aload_n hx hb dX9_append_30 rfl (lv_at hl 1 rfl) ?_
  refine lv_dup hx hb dX9_append_31 rfl ?_
  refine va_get (D := (dC, dI)) (ci := 9) (v := .int 4) (C := RX9) (T := TX9) (N := 7) hx hb hts i_c_X9_append_4_X9 hown hK hP 0 rfl rfl 1 (by decide) (hts (.fieldLink RX9 19 "OnePassport$Tape" "length" "I") (List.mem_of_getElem? (i := 1) rfl)) (fun _ h9 => h9) rfl dX9_append_32 ?_
  refine lv_iconst (v := 1) hx hb dX9_append_35 (by decide) ?_
  refine lv_iadd hx hb dX9_append_36 ?_
  refine wx_ti (y := 5) (by decide) ?_
  refine va_put (D := (dC, dI)) (ci := 9) (v := .int 5) (ty := .int) (C := RX9) (T := TX9) (N := 7) hx hb hts i_c_X9_append_4_X9 tyX9 tyX9_ok nmX9 hown hK hP hD hS 0 rfl rfl 1 (by decide) (hts (.fieldLink RX9 19 "OnePassport$Tape" "length" "I") (List.mem_of_getElem? (i := 1) rfl)) (fun _ h9 => h9) rfl (by decide +kernel) rfl rfl (Nat.le_of_ble_eq_true rfl) dX9_append_37 (fun H locs hP hD hS => ?_)
  have hP : va_P (dC, dI) vwCl [(h0, .inr (9, [.ref tb, .int 5, .int 0, .int (-1), .int 0, .int 0, .int 0])), (tb, .inl (cB, 600, .inl (upd (g0) (4 : Int32).toNatClampNeg (vp_nar .byte (((p0.toUInt32 >>> ((24 : Int32).toUInt32 &&& Int32.toUInt32 31)).toInt32).toInt8.toInt32)))))] H := hP
  have hD : va_D A [(h0, .inr (9, [.ref tb, .int 5, .int 0, .int (-1), .int 0, .int 0, .int 0])), (tb, .inl (cB, 600, .inl (upd (g0) (4 : Int32).toNatClampNeg (vp_nar .byte (((p0.toUInt32 >>> ((24 : Int32).toUInt32 &&& Int32.toUInt32 31)).toInt32).toInt8.toInt32)))))] := hD
  refine lv_iinc (v := 16) (lv' := [(2, .int 16), (0, .ref h0), (1, .int p0)]) hx hb dX9_append_40 hl (k := 0) rfl (by decide) (by decide) rfl (fun ls hl => ?_)
  refine lv_goto (tgt := 3) hx hb dX9_append_43 (by decide) ?_
  refine lv_iload_n hx hb dX9_append_3 rfl (lv_at hl 0 rfl) ?_
  refine lv_if_lt (tgt := 46) hx hb dX9_append_4 (by decide) (fun c_3 => absurd c_3 (by decide)) (fun c_3 => ?_)
  refine lv_aload_n hx hb dX9_append_7 rfl (lv_at hl 1 rfl) ?_
  refine va_get (D := (dC, dI)) (ci := 9) (v := .int 5) (C := RX9) (T := TX9) (N := 7) hx hb hts i_c_X9_append_4_X9 hown hK hP 0 rfl rfl 1 (by decide) (hts (.fieldLink RX9 19 "OnePassport$Tape" "length" "I") (List.mem_of_getElem? (i := 1) rfl)) (fun _ h9 => h9) rfl dX9_append_8 ?_
  refine lv_sipush (v := 600) hx hb dX9_append_11 (by decide) ?_
  refine lv_icmp_ge (tgt := 46) hx hb dX9_append_14 (by decide) (fun c_4 => absurd c_4 (by decide)) (fun c_4 => ?_)
  refine lv_aload_n hx hb dX9_append_17 rfl (lv_at hl 1 rfl) ?_
  refine va_get (D := (dC, dI)) (ci := 9) (v := .ref tb) (C := RX9) (T := TX9) (N := 7) hx hb hts i_c_X9_append_4_X9 hown hK hP 0 rfl rfl 0 (by decide) (hts (.fieldLink RX9 11 "OnePassport$Tape" "bytes" "[B") (List.mem_of_getElem? (i := 2) rfl)) (fun _ h9 => h9) rfl dX9_append_18 ?_
  refine lv_aload_n hx hb dX9_append_21 rfl (lv_at hl 1 rfl) ?_
  refine va_get (D := (dC, dI)) (ci := 9) (v := .int 5) (C := RX9) (T := TX9) (N := 7) hx hb hts i_c_X9_append_4_X9 hown hK hP 0 rfl rfl 1 (by decide) (hts (.fieldLink RX9 19 "OnePassport$Tape" "length" "I") (List.mem_of_getElem? (i := 1) rfl)) (fun _ h9 => h9) rfl dX9_append_22 ?_
  refine lv_iload_n hx hb dX9_append_25 rfl (lv_at hl 2 rfl) ?_
  refine lv_iload_n hx hb dX9_append_26 rfl (lv_at hl 0 rfl) ?_
  refine lv_iushr (v := (p0.toUInt32 >>> ((16 : Int32).toUInt32 &&& Int32.toUInt32 31)).toInt32) hx hb dX9_append_27 rfl ?_
  refine lv_i2b (v := ((p0.toUInt32 >>> ((16 : Int32).toUInt32 &&& Int32.toUInt32 31)).toInt32).toInt8.toInt32) hx hb dX9_append_28 rfl ?_
  refine va_bast hx hb hK hP hD hS 1 0 rfl rfl (i := 5) (x := ((p0.toUInt32 >>> ((16 : Int32).toUInt32 &&& Int32.toUInt32 31)).toInt32).toInt8.toInt32) (by unfold vp_in; decide) dX9_append_29 (fun H locs hP hD hS => ?_)
  have hP : va_P (dC, dI) vwCl [(h0, .inr (9, [.ref tb, .int 5, .int 0, .int (-1), .int 0, .int 0, .int 0])), (tb, .inl (cB, 600, .inl (upd (upd (g0) (4 : Int32).toNatClampNeg (vp_nar .byte (((p0.toUInt32 >>> ((24 : Int32).toUInt32 &&& Int32.toUInt32 31)).toInt32).toInt8.toInt32))) (5 : Int32).toNatClampNeg (vp_nar .byte (((p0.toUInt32 >>> ((16 : Int32).toUInt32 &&& Int32.toUInt32 31)).toInt32).toInt8.toInt32)))))] H := hP
  have hD : va_D A [(h0, .inr (9, [.ref tb, .int 5, .int 0, .int (-1), .int 0, .int 0, .int 0])), (tb, .inl (cB, 600, .inl (upd (upd (g0) (4 : Int32).toNatClampNeg (vp_nar .byte (((p0.toUInt32 >>> ((24 : Int32).toUInt32 &&& Int32.toUInt32 31)).toInt32).toInt8.toInt32))) (5 : Int32).toNatClampNeg (vp_nar .byte (((p0.toUInt32 >>> ((16 : Int32).toUInt32 &&& Int32.toUInt32 31)).toInt32).toInt8.toInt32)))))] := hD
  refine lv_aload_n hx hb dX9_append_30 rfl (lv_at hl 1 rfl) ?_
  refine lv_dup hx hb dX9_append_31 rfl ?_
  refine va_get (D := (dC, dI)) (ci := 9) (v := .int 5) (C := RX9) (T := TX9) (N := 7) hx hb hts i_c_X9_append_4_X9 hown hK hP 0 rfl rfl 1 (by decide) (hts (.fieldLink RX9 19 "OnePassport$Tape" "length" "I") (List.mem_of_getElem? (i := 1) rfl)) (fun _ h9 => h9) rfl dX9_append_32 ?_
  refine lv_iconst (v := 1) hx hb dX9_append_35 (by decide) ?_
  refine lv_iadd hx hb dX9_append_36 ?_
  refine wx_ti (y := 6) (by decide) ?_
  refine va_put (D := (dC, dI)) (ci := 9) (v := .int 6) (ty := .int) (C := RX9) (T := TX9) (N := 7) hx hb hts i_c_X9_append_4_X9 tyX9 tyX9_ok nmX9 hown hK hP hD hS 0 rfl rfl 1 (by decide) (hts (.fieldLink RX9 19 "OnePassport$Tape" "length" "I") (List.mem_of_getElem? (i := 1) rfl)) (fun _ h9 => h9) rfl (by decide +kernel) rfl rfl (Nat.le_of_ble_eq_true rfl) dX9_append_37 (fun H locs hP hD hS => ?_)
  have hP : va_P (dC, dI) vwCl [(h0, .inr (9, [.ref tb, .int 6, .int 0, .int (-1), .int 0, .int 0, .int 0])), (tb, .inl (cB, 600, .inl (upd (upd (g0) (4 : Int32).toNatClampNeg (vp_nar .byte (((p0.toUInt32 >>> ((24 : Int32).toUInt32 &&& Int32.toUInt32 31)).toInt32).toInt8.toInt32))) (5 : Int32).toNatClampNeg (vp_nar .byte (((p0.toUInt32 >>> ((16 : Int32).toUInt32 &&& Int32.toUInt32 31)).toInt32).toInt8.toInt32)))))] H := hP
  have hD : va_D A [(h0, .inr (9, [.ref tb, .int 6, .int 0, .int (-1), .int 0, .int 0, .int 0])), (tb, .inl (cB, 600, .inl (upd (upd (g0) (4 : Int32).toNatClampNeg (vp_nar .byte (((p0.toUInt32 >>> ((24 : Int32).toUInt32 &&& Int32.toUInt32 31)).toInt32).toInt8.toInt32))) (5 : Int32).toNatClampNeg (vp_nar .byte (((p0.toUInt32 >>> ((16 : Int32).toUInt32 &&& Int32.toUInt32 31)).toInt32).toInt8.toInt32)))))] := hD
  refine lv_iinc (v := 8) (lv' := [(2, .int 8), (0, .ref h0), (1, .int p0)]) hx hb dX9_append_40 hl (k := 0) rfl (by decide) (by decide) rfl (fun ls hl => ?_)
  refine lv_goto (tgt := 3) hx hb dX9_append_43 (by decide) ?_
  refine lv_iload_n hx hb dX9_append_3 rfl (lv_at hl 0 rfl) ?_
  refine lv_if_lt (tgt := 46) hx hb dX9_append_4 (by decide) (fun c_5 => absurd c_5 (by decide)) (fun c_5 => ?_)
  refine lv_aload_n hx hb dX9_append_7 rfl (lv_at hl 1 rfl) ?_
  refine va_get (D := (dC, dI)) (ci := 9) (v := .int 6) (C := RX9) (T := TX9) (N := 7) hx hb hts i_c_X9_append_4_X9 hown hK hP 0 rfl rfl 1 (by decide) (hts (.fieldLink RX9 19 "OnePassport$Tape" "length" "I") (List.mem_of_getElem? (i := 1) rfl)) (fun _ h9 => h9) rfl dX9_append_8 ?_
  refine lv_sipush (v := 600) hx hb dX9_append_11 (by decide) ?_
  refine lv_icmp_ge (tgt := 46) hx hb dX9_append_14 (by decide) (fun c_6 => absurd c_6 (by decide)) (fun c_6 => ?_)
  refine lv_aload_n hx hb dX9_append_17 rfl (lv_at hl 1 rfl) ?_
  refine va_get (D := (dC, dI)) (ci := 9) (v := .ref tb) (C := RX9) (T := TX9) (N := 7) hx hb hts i_c_X9_append_4_X9 hown hK hP 0 rfl rfl 0 (by decide) (hts (.fieldLink RX9 11 "OnePassport$Tape" "bytes" "[B") (List.mem_of_getElem? (i := 2) rfl)) (fun _ h9 => h9) rfl dX9_append_18 ?_
  refine lv_aload_n hx hb dX9_append_21 rfl (lv_at hl 1 rfl) ?_
  refine va_get (D := (dC, dI)) (ci := 9) (v := .int 6) (C := RX9) (T := TX9) (N := 7) hx hb hts i_c_X9_append_4_X9 hown hK hP 0 rfl rfl 1 (by decide) (hts (.fieldLink RX9 19 "OnePassport$Tape" "length" "I") (List.mem_of_getElem? (i := 1) rfl)) (fun _ h9 => h9) rfl dX9_append_22 ?_
  refine lv_iload_n hx hb dX9_append_25 rfl (lv_at hl 2 rfl) ?_
  refine lv_iload_n hx hb dX9_append_26 rfl (lv_at hl 0 rfl) ?_
  refine lv_iushr (v := (p0.toUInt32 >>> ((8 : Int32).toUInt32 &&& Int32.toUInt32 31)).toInt32) hx hb dX9_append_27 rfl ?_
  refine lv_i2b (v := ((p0.toUInt32 >>> ((8 : Int32).toUInt32 &&& Int32.toUInt32 31)).toInt32).toInt8.toInt32) hx hb dX9_append_28 rfl ?_
  refine va_bast hx hb hK hP hD hS 1 0 rfl rfl (i := 6) (x := ((p0.toUInt32 >>> ((8 : Int32).toUInt32 &&& Int32.toUInt32 31)).toInt32).toInt8.toInt32) (by unfold vp_in; decide) dX9_append_29 (fun H locs hP hD hS => ?_)
  have hP : va_P (dC, dI) vwCl [(h0, .inr (9, [.ref tb, .int 6, .int 0, .int (-1), .int 0, .int 0, .int 0])), (tb, .inl (cB, 600, .inl (upd (upd (upd (g0) (4 : Int32).toNatClampNeg (vp_nar .byte (((p0.toUInt32 >>> ((24 : Int32).toUInt32 &&& Int32.toUInt32 31)).toInt32).toInt8.toInt32))) (5 : Int32).toNatClampNeg (vp_nar .byte (((p0.toUInt32 >>> ((16 : Int32).toUInt32 &&& Int32.toUInt32 31)).toInt32).toInt8.toInt32))) (6 : Int32).toNatClampNeg (vp_nar .byte (((p0.toUInt32 >>> ((8 : Int32).toUInt32 &&& Int32.toUInt32 31)).toInt32).toInt8.toInt32)))))] H := hP
  have hD : va_D A [(h0, .inr (9, [.ref tb, .int 6, .int 0, .int (-1), .int 0, .int 0, .int 0])), (tb, .inl (cB, 600, .inl (upd (upd (upd (g0) (4 : Int32).toNatClampNeg (vp_nar .byte (((p0.toUInt32 >>> ((24 : Int32).toUInt32 &&& Int32.toUInt32 31)).toInt32).toInt8.toInt32))) (5 : Int32).toNatClampNeg (vp_nar .byte (((p0.toUInt32 >>> ((16 : Int32).toUInt32 &&& Int32.toUInt32 31)).toInt32).toInt8.toInt32))) (6 : Int32).toNatClampNeg (vp_nar .byte (((p0.toUInt32 >>> ((8 : Int32).toUInt32 &&& Int32.toUInt32 31)).toInt32).toInt8.toInt32)))))] := hD
  refine lv_aload_n hx hb dX9_append_30 rfl (lv_at hl 1 rfl) ?_
  refine lv_dup hx hb dX9_append_31 rfl ?_
  refine va_get (D := (dC, dI)) (ci := 9) (v := .int 6) (C := RX9) (T := TX9) (N := 7) hx hb hts i_c_X9_append_4_X9 hown hK hP 0 rfl rfl 1 (by decide) (hts (.fieldLink RX9 19 "OnePassport$Tape" "length" "I") (List.mem_of_getElem? (i := 1) rfl)) (fun _ h9 => h9) rfl dX9_append_32 ?_
  refine lv_iconst (v := 1) hx hb dX9_append_35 (by decide) ?_
  refine lv_iadd hx hb dX9_append_36 ?_
  refine wx_ti (y := 7) (by decide) ?_
  refine va_put (D := (dC, dI)) (ci := 9) (v := .int 7) (ty := .int) (C := RX9) (T := TX9) (N := 7) hx hb hts i_c_X9_append_4_X9 tyX9 tyX9_ok nmX9 hown hK hP hD hS 0 rfl rfl 1 (by decide) (hts (.fieldLink RX9 19 "OnePassport$Tape" "length" "I") (List.mem_of_getElem? (i := 1) rfl)) (fun _ h9 => h9) rfl (by decide +kernel) rfl rfl (Nat.le_of_ble_eq_true rfl) dX9_append_37 (fun H locs hP hD hS => ?_)
  have hP : va_P (dC, dI) vwCl [(h0, .inr (9, [.ref tb, .int 7, .int 0, .int (-1), .int 0, .int 0, .int 0])), (tb, .inl (cB, 600, .inl (upd (upd (upd (g0) (4 : Int32).toNatClampNeg (vp_nar .byte (((p0.toUInt32 >>> ((24 : Int32).toUInt32 &&& Int32.toUInt32 31)).toInt32).toInt8.toInt32))) (5 : Int32).toNatClampNeg (vp_nar .byte (((p0.toUInt32 >>> ((16 : Int32).toUInt32 &&& Int32.toUInt32 31)).toInt32).toInt8.toInt32))) (6 : Int32).toNatClampNeg (vp_nar .byte (((p0.toUInt32 >>> ((8 : Int32).toUInt32 &&& Int32.toUInt32 31)).toInt32).toInt8.toInt32)))))] H := hP
  have hD : va_D A [(h0, .inr (9, [.ref tb, .int 7, .int 0, .int (-1), .int 0, .int 0, .int 0])), (tb, .inl (cB, 600, .inl (upd (upd (upd (g0) (4 : Int32).toNatClampNeg (vp_nar .byte (((p0.toUInt32 >>> ((24 : Int32).toUInt32 &&& Int32.toUInt32 31)).toInt32).toInt8.toInt32))) (5 : Int32).toNatClampNeg (vp_nar .byte (((p0.toUInt32 >>> ((16 : Int32).toUInt32 &&& Int32.toUInt32 31)).toInt32).toInt8.toInt32))) (6 : Int32).toNatClampNeg (vp_nar .byte (((p0.toUInt32 >>> ((8 : Int32).toUInt32 &&& Int32.toUInt32 31)).toInt32).toInt8.toInt32)))))] := hD
  refine lv_iinc (v := 0) (lv' := [(2, .int 0), (0, .ref h0), (1, .int p0)]) hx hb dX9_append_40 hl (k := 0) rfl (by decide) (by decide) rfl (fun ls hl => ?_)
  refine lv_goto (tgt := 3) hx hb dX9_append_43 (by decide) ?_
  refine lv_iload_n hx hb dX9_append_3 rfl (lv_at hl 0 rfl) ?_
  refine lv_if_lt (tgt := 46) hx hb dX9_append_4 (by decide) (fun c_7 => absurd c_7 (by decide)) (fun c_7 => ?_)
  refine lv_aload_n hx hb dX9_append_7 rfl (lv_at hl 1 rfl) ?_
  refine va_get (D := (dC, dI)) (ci := 9) (v := .int 7) (C := RX9) (T := TX9) (N := 7) hx hb hts i_c_X9_append_4_X9 hown hK hP 0 rfl rfl 1 (by decide) (hts (.fieldLink RX9 19 "OnePassport$Tape" "length" "I") (List.mem_of_getElem? (i := 1) rfl)) (fun _ h9 => h9) rfl dX9_append_8 ?_
  refine lv_sipush (v := 600) hx hb dX9_append_11 (by decide) ?_
  refine lv_icmp_ge (tgt := 46) hx hb dX9_append_14 (by decide) (fun c_8 => absurd c_8 (by decide)) (fun c_8 => ?_)
  refine lv_aload_n hx hb dX9_append_17 rfl (lv_at hl 1 rfl) ?_
  refine va_get (D := (dC, dI)) (ci := 9) (v := .ref tb) (C := RX9) (T := TX9) (N := 7) hx hb hts i_c_X9_append_4_X9 hown hK hP 0 rfl rfl 0 (by decide) (hts (.fieldLink RX9 11 "OnePassport$Tape" "bytes" "[B") (List.mem_of_getElem? (i := 2) rfl)) (fun _ h9 => h9) rfl dX9_append_18 ?_
  refine lv_aload_n hx hb dX9_append_21 rfl (lv_at hl 1 rfl) ?_
  refine va_get (D := (dC, dI)) (ci := 9) (v := .int 7) (C := RX9) (T := TX9) (N := 7) hx hb hts i_c_X9_append_4_X9 hown hK hP 0 rfl rfl 1 (by decide) (hts (.fieldLink RX9 19 "OnePassport$Tape" "length" "I") (List.mem_of_getElem? (i := 1) rfl)) (fun _ h9 => h9) rfl dX9_append_22 ?_
  refine lv_iload_n hx hb dX9_append_25 rfl (lv_at hl 2 rfl) ?_
  refine lv_iload_n hx hb dX9_append_26 rfl (lv_at hl 0 rfl) ?_
  refine lv_iushr (v := (p0.toUInt32 >>> ((0 : Int32).toUInt32 &&& Int32.toUInt32 31)).toInt32) hx hb dX9_append_27 rfl ?_
  refine lv_i2b (v := ((p0.toUInt32 >>> ((0 : Int32).toUInt32 &&& Int32.toUInt32 31)).toInt32).toInt8.toInt32) hx hb dX9_append_28 rfl ?_
  refine va_bast hx hb hK hP hD hS 1 0 rfl rfl (i := 7) (x := ((p0.toUInt32 >>> ((0 : Int32).toUInt32 &&& Int32.toUInt32 31)).toInt32).toInt8.toInt32) (by unfold vp_in; decide) dX9_append_29 (fun H locs hP hD hS => ?_)
  have hP : va_P (dC, dI) vwCl [(h0, .inr (9, [.ref tb, .int 7, .int 0, .int (-1), .int 0, .int 0, .int 0])), (tb, .inl (cB, 600, .inl (upd (upd (upd (upd (g0) (4 : Int32).toNatClampNeg (vp_nar .byte (((p0.toUInt32 >>> ((24 : Int32).toUInt32 &&& Int32.toUInt32 31)).toInt32).toInt8.toInt32))) (5 : Int32).toNatClampNeg (vp_nar .byte (((p0.toUInt32 >>> ((16 : Int32).toUInt32 &&& Int32.toUInt32 31)).toInt32).toInt8.toInt32))) (6 : Int32).toNatClampNeg (vp_nar .byte (((p0.toUInt32 >>> ((8 : Int32).toUInt32 &&& Int32.toUInt32 31)).toInt32).toInt8.toInt32))) (7 : Int32).toNatClampNeg (vp_nar .byte (((p0.toUInt32 >>> ((0 : Int32).toUInt32 &&& Int32.toUInt32 31)).toInt32).toInt8.toInt32)))))] H := hP
  have hD : va_D A [(h0, .inr (9, [.ref tb, .int 7, .int 0, .int (-1), .int 0, .int 0, .int 0])), (tb, .inl (cB, 600, .inl (upd (upd (upd (upd (g0) (4 : Int32).toNatClampNeg (vp_nar .byte (((p0.toUInt32 >>> ((24 : Int32).toUInt32 &&& Int32.toUInt32 31)).toInt32).toInt8.toInt32))) (5 : Int32).toNatClampNeg (vp_nar .byte (((p0.toUInt32 >>> ((16 : Int32).toUInt32 &&& Int32.toUInt32 31)).toInt32).toInt8.toInt32))) (6 : Int32).toNatClampNeg (vp_nar .byte (((p0.toUInt32 >>> ((8 : Int32).toUInt32 &&& Int32.toUInt32 31)).toInt32).toInt8.toInt32))) (7 : Int32).toNatClampNeg (vp_nar .byte (((p0.toUInt32 >>> ((0 : Int32).toUInt32 &&& Int32.toUInt32 31)).toInt32).toInt8.toInt32)))))] := hD
  refine lv_aload_n hx hb dX9_append_30 rfl (lv_at hl 1 rfl) ?_
  refine lv_dup hx hb dX9_append_31 rfl ?_
  refine va_get (D := (dC, dI)) (ci := 9) (v := .int 7) (C := RX9) (T := TX9) (N := 7) hx hb hts i_c_X9_append_4_X9 hown hK hP 0 rfl rfl 1 (by decide) (hts (.fieldLink RX9 19 "OnePassport$Tape" "length" "I") (List.mem_of_getElem? (i := 1) rfl)) (fun _ h9 => h9) rfl dX9_append_32 ?_
  refine lv_iconst (v := 1) hx hb dX9_append_35 (by decide) ?_
  refine lv_iadd hx hb dX9_append_36 ?_
  refine wx_ti (y := 8) (by decide) ?_
  refine va_put (D := (dC, dI)) (ci := 9) (v := .int 8) (ty := .int) (C := RX9) (T := TX9) (N := 7) hx hb hts i_c_X9_append_4_X9 tyX9 tyX9_ok nmX9 hown hK hP hD hS 0 rfl rfl 1 (by decide) (hts (.fieldLink RX9 19 "OnePassport$Tape" "length" "I") (List.mem_of_getElem? (i := 1) rfl)) (fun _ h9 => h9) rfl (by decide +kernel) rfl rfl (Nat.le_of_ble_eq_true rfl) dX9_append_37 (fun H locs hP hD hS => ?_)
  have hP : va_P (dC, dI) vwCl [(h0, .inr (9, [.ref tb, .int 8, .int 0, .int (-1), .int 0, .int 0, .int 0])), (tb, .inl (cB, 600, .inl (upd (upd (upd (upd (g0) (4 : Int32).toNatClampNeg (vp_nar .byte (((p0.toUInt32 >>> ((24 : Int32).toUInt32 &&& Int32.toUInt32 31)).toInt32).toInt8.toInt32))) (5 : Int32).toNatClampNeg (vp_nar .byte (((p0.toUInt32 >>> ((16 : Int32).toUInt32 &&& Int32.toUInt32 31)).toInt32).toInt8.toInt32))) (6 : Int32).toNatClampNeg (vp_nar .byte (((p0.toUInt32 >>> ((8 : Int32).toUInt32 &&& Int32.toUInt32 31)).toInt32).toInt8.toInt32))) (7 : Int32).toNatClampNeg (vp_nar .byte (((p0.toUInt32 >>> ((0 : Int32).toUInt32 &&& Int32.toUInt32 31)).toInt32).toInt8.toInt32)))))] H := hP
  have hD : va_D A [(h0, .inr (9, [.ref tb, .int 8, .int 0, .int (-1), .int 0, .int 0, .int 0])), (tb, .inl (cB, 600, .inl (upd (upd (upd (upd (g0) (4 : Int32).toNatClampNeg (vp_nar .byte (((p0.toUInt32 >>> ((24 : Int32).toUInt32 &&& Int32.toUInt32 31)).toInt32).toInt8.toInt32))) (5 : Int32).toNatClampNeg (vp_nar .byte (((p0.toUInt32 >>> ((16 : Int32).toUInt32 &&& Int32.toUInt32 31)).toInt32).toInt8.toInt32))) (6 : Int32).toNatClampNeg (vp_nar .byte (((p0.toUInt32 >>> ((8 : Int32).toUInt32 &&& Int32.toUInt32 31)).toInt32).toInt8.toInt32))) (7 : Int32).toNatClampNeg (vp_nar .byte (((p0.toUInt32 >>> ((0 : Int32).toUInt32 &&& Int32.toUInt32 31)).toInt32).toInt8.toInt32)))))] := hD
  refine lv_iinc (v := (-8)) (lv' := [(2, .int (-8)), (0, .ref h0), (1, .int p0)]) hx hb dX9_append_40 hl (k := 0) rfl (by decide) (by decide) rfl (fun ls hl => ?_)
  refine lv_goto (tgt := 3) hx hb dX9_append_43 (by decide) ?_
  refine lv_iload_n hx hb dX9_append_3 rfl (lv_at hl 0 rfl) ?_
  refine lv_if_lt (tgt := 46) hx hb dX9_append_4 (by decide) (fun c_9 => ?_) (fun c_9 => absurd (by decide) c_9)
  have hP9 := hP.sub (ws' := [(h0, .inr (9, [.ref tb, .int 8, .int 0, .int (-1), .int 0, .int 0, .int 0])), (tb, .inl (cB, 600, .inl ((upd (upd (upd (upd (g0) (4 : Int32).toNatClampNeg (vp_nar .byte (((p0.toUInt32 >>> ((24 : Int32).toUInt32 &&& Int32.toUInt32 31)).toInt32).toInt8.toInt32))) (5 : Int32).toNatClampNeg (vp_nar .byte (((p0.toUInt32 >>> ((16 : Int32).toUInt32 &&& Int32.toUInt32 31)).toInt32).toInt8.toInt32))) (6 : Int32).toNatClampNeg (vp_nar .byte (((p0.toUInt32 >>> ((8 : Int32).toUInt32 &&& Int32.toUInt32 31)).toInt32).toInt8.toInt32))) (7 : Int32).toNatClampNeg (vp_nar .byte (((p0.toUInt32 >>> ((0 : Int32).toUInt32 &&& Int32.toUInt32 31)).toInt32).toInt8.toInt32))))))]) [0, 1] rfl
  have hD9 := hD.sub (ws' := [(h0, .inr (9, [.ref tb, .int 8, .int 0, .int (-1), .int 0, .int 0, .int 0])), (tb, .inl (cB, 600, .inl ((upd (upd (upd (upd (g0) (4 : Int32).toNatClampNeg (vp_nar .byte (((p0.toUInt32 >>> ((24 : Int32).toUInt32 &&& Int32.toUInt32 31)).toInt32).toInt8.toInt32))) (5 : Int32).toNatClampNeg (vp_nar .byte (((p0.toUInt32 >>> ((16 : Int32).toUInt32 &&& Int32.toUInt32 31)).toInt32).toInt8.toInt32))) (6 : Int32).toNatClampNeg (vp_nar .byte (((p0.toUInt32 >>> ((8 : Int32).toUInt32 &&& Int32.toUInt32 31)).toInt32).toInt8.toInt32))) (7 : Int32).toNatClampNeg (vp_nar .byte (((p0.toUInt32 >>> ((0 : Int32).toUInt32 &&& Int32.toUInt32 31)).toInt32).toInt8.toInt32))))))]) [0, 1] (by decide) rfl
  exact W.vret hx hb hr (fun t ht hW => ⟨⟨(), rfl, trivial, (upd (upd (upd (upd (g0) (4 : Int32).toNatClampNeg (vp_nar .byte (((p0.toUInt32 >>> ((24 : Int32).toUInt32 &&& Int32.toUInt32 31)).toInt32).toInt8.toInt32))) (5 : Int32).toNatClampNeg (vp_nar .byte (((p0.toUInt32 >>> ((16 : Int32).toUInt32 &&& Int32.toUInt32 31)).toInt32).toInt8.toInt32))) (6 : Int32).toNatClampNeg (vp_nar .byte (((p0.toUInt32 >>> ((8 : Int32).toUInt32 &&& Int32.toUInt32 31)).toInt32).toInt8.toInt32))) (7 : Int32).toNatClampNeg (vp_nar .byte (((p0.toUInt32 >>> ((0 : Int32).toUInt32 &&& Int32.toUInt32 31)).toInt32).toInt8.toInt32))), by rw [ht]; exact hP9, va_K.moved hW.alike hK, hD9⟩, hS.F ht⟩) hS.2.2 dX9_append_46


def w_c_X9_append_8 : List Cond := .code yX9_append cX9_append 3 none :: ([.fieldLink RX9 19 "OnePassport$Tape" "length" "I", .fieldLink RX9 11 "OnePassport$Tape" "bytes" "[B"] ++ wsX90)
theorem i_c_X9_append_8_X9 : ∀ w ∈ wsX90, w ∈ w_c_X9_append_8 := fun _ h => List.mem_cons_of_mem _ (List.mem_append_right _ h)
set_option maxHeartbeats 4000000 in
set_option maxRecDepth 100000 in
theorem c_X9_append_8 (l : Launch) (dC : Nat → ClassId) (dI : Nat → Nat → Nat) (cB : ClassId) (h0 : Nat) (tb : Nat) (p0 : Int32) (g0 : Nat → Int32) (sz : Nat) : Met l yX9_append w_c_X9_append_8 ({ frames := 0, cells := 0, slots := 0, locals := 0 }) (va_Pc [.ref h0, .int p0] (fun U => U.heap.size = sz ∧ va_P (dC, dI) vwCl [(h0, .inr (9, [.ref tb, .int 8, .int 0, .int (-1), .int 0, .int 0, .int 0])), (tb, .inl (cB, 600, .inl (g0)))] U.heap ∧ va_K (dC, dI) vwCl [(cB, .byte)] U ∧ va_D (fun _ => True) [(h0, .inr (9, [.ref tb, .int 8, .int 0, .int (-1), .int 0, .int 0, .int 0])), (tb, .inl (cB, 600, .inl (g0)))])) (va_Qv (fun _ : Unit => True) (fun (_ : Unit) (t : State) => ∃ (g1 : Nat → Int32), va_P (dC, dI) vwCl [(h0, .inr (9, [.ref tb, .int 12, .int 0, .int (-1), .int 0, .int 0, .int 0])), (tb, .inl (cB, 600, .inl (g1)))] t.heap ∧ va_K (dC, dI) vwCl [(cB, .byte)] t ∧ va_D (va_A [(h0, .inr (9, [.ref tb, .int 8, .int 0, .int (-1), .int 0, .int 0, .int 0])), (tb, .inl (cB, 600, .inl (g0)))] sz) [(h0, .inr (9, [.ref tb, .int 12, .int 0, .int (-1), .int 0, .int 0, .int 0])), (tb, .inl (cB, 600, .inl (g1)))]) (va_A [(h0, .inr (9, [.ref tb, .int 8, .int 0, .int (-1), .int 0, .int 0, .int 0])), (tb, .inl (cB, 600, .inl (g0)))] sz)) 0 0 (va_A [(h0, .inr (9, [.ref tb, .int 8, .int 0, .int (-1), .int 0, .int 0, .int 0])), (tb, .inl (cB, 600, .inl (g0)))] sz) := by
  refine Met.ofW (cc := cX9_append) (maxL := 3) (ret := none) (by decide) rfl ?_
  intro p e s m args below meth c s₁ B hml hv
  obtain ⟨rfl, hsz, hP, hK, hD0⟩ := hv
  have hx := B.exec
  have hb := B.bytes
  have hr := B.returns
  have hts := atoms_spec (ws := w_c_X9_append_8) B.pre
  have hown : s.vm.findClass RX9 = some m.cls := findClass_of_methodNamed B.named
  have hlocks := B.notSynchronized
  subst hsz
  have hD := hD0.self (sz := s.heap.size)
  generalize hAe : va_A [(h0, .inr (9, [.ref tb, .int 8, .int 0, .int (-1), .int 0, .int 0, .int 0])), (tb, .inl (cB, 600, .inl (g0)))] s.heap.size = A at hD ⊢
  have hA : ∀ q : Nat, s.heap.size ≤ q → A q := fun q h => by rw [← hAe]; exact Or.inr h
  have hS : va_S A s.heap s.heap [] := va_S.rf
  have hP : va_P (dC, dI) vwCl [(h0, .inr (9, [.ref tb, .int 8, .int 0, .int (-1), .int 0, .int 0, .int 0])), (tb, .inl (cB, 600, .inl (g0)))] s.heap := hP
  have hl := lv_entry ([.ref h0, .int p0]) (n := 3) (Nat.le_of_ble_eq_true rfl)
  rw [lg_entry_eq]
  generalize (lg_sl ([.ref h0, .int p0]) ++ List.replicate (3 - (lg_sl ([.ref h0, .int p0])).length) Slot.unset).toArray = ls at hl ⊢
  have hl : lv_has ls 3 [(0, .ref h0), (1, .int p0)] := hl
  refine lv_bipush (v := 24) hx hb dX9_append_0 (by decide) ?_
  refine lv_istore_n (lv' := [(2, .int 24), (0, .ref h0), (1, .int p0)]) hx hb dX9_append_2 rfl hl (by decide) rfl (fun ls hl => ?_)
  refine lv_iload_n hx hb dX9_append_3 rfl (lv_at hl 0 rfl) ?_
  refine lv_if_lt (tgt := 46) hx hb dX9_append_4 (by decide) (fun c_1 => absurd c_1 (by decide)) (fun c_1 => ?_)
  refine lv_aload_n hx hb dX9_append_7 rfl (lv_at hl 1 rfl) ?_
  refine va_get (D := (dC, dI)) (ci := 9) (v := .int 8) (C := RX9) (T := TX9) (N := 7) hx hb hts i_c_X9_append_8_X9 hown hK hP 0 rfl rfl 1 (by decide) (hts (.fieldLink RX9 19 "OnePassport$Tape" "length" "I") (List.mem_of_getElem? (i := 1) rfl)) (fun _ h9 => h9) rfl dX9_append_8 ?_
  refine lv_sipush (v := 600) hx hb dX9_append_11 (by decide) ?_
  refine lv_icmp_ge (tgt := 46) hx hb dX9_append_14 (by decide) (fun c_2 => absurd c_2 (by decide)) (fun c_2 => ?_)
  refine lv_aload_n hx hb dX9_append_17 rfl (lv_at hl 1 rfl) ?_
  refine va_get (D := (dC, dI)) (ci := 9) (v := .ref tb) (C := RX9) (T := TX9) (N := 7) hx hb hts i_c_X9_append_8_X9 hown hK hP 0 rfl rfl 0 (by decide) (hts (.fieldLink RX9 11 "OnePassport$Tape" "bytes" "[B") (List.mem_of_getElem? (i := 2) rfl)) (fun _ h9 => h9) rfl dX9_append_18 ?_
  refine lv_aload_n hx hb dX9_append_21 rfl (lv_at hl 1 rfl) ?_
  refine va_get (D := (dC, dI)) (ci := 9) (v := .int 8) (C := RX9) (T := TX9) (N := 7) hx hb hts i_c_X9_append_8_X9 hown hK hP 0 rfl rfl 1 (by decide) (hts (.fieldLink RX9 19 "OnePassport$Tape" "length" "I") (List.mem_of_getElem? (i := 1) rfl)) (fun _ h9 => h9) rfl dX9_append_22 ?_
  refine lv_iload_n hx hb dX9_append_25 rfl (lv_at hl 2 rfl) ?_
  refine lv_iload_n hx hb dX9_append_26 rfl (lv_at hl 0 rfl) ?_
  refine lv_iushr (v := (p0.toUInt32 >>> ((24 : Int32).toUInt32 &&& Int32.toUInt32 31)).toInt32) hx hb dX9_append_27 rfl ?_
  refine lv_i2b (v := ((p0.toUInt32 >>> ((24 : Int32).toUInt32 &&& Int32.toUInt32 31)).toInt32).toInt8.toInt32) hx hb dX9_append_28 rfl ?_
  refine va_bast hx hb hK hP hD hS 1 0 rfl rfl (i := 8) (x := ((p0.toUInt32 >>> ((24 : Int32).toUInt32 &&& Int32.toUInt32 31)).toInt32).toInt8.toInt32) (by unfold vp_in; decide) dX9_append_29 (fun H locs hP hD hS => ?_)
  have hP : va_P (dC, dI) vwCl [(h0, .inr (9, [.ref tb, .int 8, .int 0, .int (-1), .int 0, .int 0, .int 0])), (tb, .inl (cB, 600, .inl (upd (g0) (8 : Int32).toNatClampNeg (vp_nar .byte (((p0.toUInt32 >>> ((24 : Int32).toUInt32 &&& Int32.toUInt32 31)).toInt32).toInt8.toInt32)))))] H := hP
  have hD : va_D A [(h0, .inr (9, [.ref tb, .int 8, .int 0, .int (-1), .int 0, .int 0, .int 0])), (tb, .inl (cB, 600, .inl (upd (g0) (8 : Int32).toNatClampNeg (vp_nar .byte (((p0.toUInt32 >>> ((24 : Int32).toUInt32 &&& Int32.toUInt32 31)).toInt32).toInt8.toInt32)))))] := hD
  refine lv_aload_n hx hb dX9_append_30 rfl (lv_at hl 1 rfl) ?_
  refine lv_dup hx hb dX9_append_31 rfl ?_
  refine va_get (D := (dC, dI)) (ci := 9) (v := .int 8) (C := RX9) (T := TX9) (N := 7) hx hb hts i_c_X9_append_8_X9 hown hK hP 0 rfl rfl 1 (by decide) (hts (.fieldLink RX9 19 "OnePassport$Tape" "length" "I") (List.mem_of_getElem? (i := 1) rfl)) (fun _ h9 => h9) rfl dX9_append_32 ?_
  refine lv_iconst (v := 1) hx hb dX9_append_35 (by decide) ?_
  refine lv_iadd hx hb dX9_append_36 ?_
  refine wx_ti (y := 9) (by decide) ?_
  refine va_put (D := (dC, dI)) (ci := 9) (v := .int 9) (ty := .int) (C := RX9) (T := TX9) (N := 7) hx hb hts i_c_X9_append_8_X9 tyX9 tyX9_ok nmX9 hown hK hP hD hS 0 rfl rfl 1 (by decide) (hts (.fieldLink RX9 19 "OnePassport$Tape" "length" "I") (List.mem_of_getElem? (i := 1) rfl)) (fun _ h9 => h9) rfl (by decide +kernel) rfl rfl (Nat.le_of_ble_eq_true rfl) dX9_append_37 (fun H locs hP hD hS => ?_)
  have hP : va_P (dC, dI) vwCl [(h0, .inr (9, [.ref tb, .int 9, .int 0, .int (-1), .int 0, .int 0, .int 0])), (tb, .inl (cB, 600, .inl (upd (g0) (8 : Int32).toNatClampNeg (vp_nar .byte (((p0.toUInt32 >>> ((24 : Int32).toUInt32 &&& Int32.toUInt32 31)).toInt32).toInt8.toInt32)))))] H := hP
  have hD : va_D A [(h0, .inr (9, [.ref tb, .int 9, .int 0, .int (-1), .int 0, .int 0, .int 0])), (tb, .inl (cB, 600, .inl (upd (g0) (8 : Int32).toNatClampNeg (vp_nar .byte (((p0.toUInt32 >>> ((24 : Int32).toUInt32 &&& Int32.toUInt32 31)).toInt32).toInt8.toInt32)))))] := hD
  refine lv_iinc (v := 16) (lv' := [(2, .int 16), (0, .ref h0), (1, .int p0)]) hx hb dX9_append_40 hl (k := 0) rfl (by decide) (by decide) rfl (fun ls hl => ?_)
  refine lv_goto (tgt := 3) hx hb dX9_append_43 (by decide) ?_
  refine lv_iload_n hx hb dX9_append_3 rfl (lv_at hl 0 rfl) ?_
  refine lv_if_lt (tgt := 46) hx hb dX9_append_4 (by decide) (fun c_3 => absurd c_3 (by decide)) (fun c_3 => ?_)
  refine lv_aload_n hx hb dX9_append_7 rfl (lv_at hl 1 rfl) ?_
  refine va_get (D := (dC, dI)) (ci := 9) (v := .int 9) (C := RX9) (T := TX9) (N := 7) hx hb hts i_c_X9_append_8_X9 hown hK hP 0 rfl rfl 1 (by decide) (hts (.fieldLink RX9 19 "OnePassport$Tape" "length" "I") (List.mem_of_getElem? (i := 1) rfl)) (fun _ h9 => h9) rfl dX9_append_8 ?_
  refine lv_sipush (v := 600) hx hb dX9_append_11 (by decide) ?_
  refine lv_icmp_ge (tgt := 46) hx hb dX9_append_14 (by decide) (fun c_4 => absurd c_4 (by decide)) (fun c_4 => ?_)
  refine lv_aload_n hx hb dX9_append_17 rfl (lv_at hl 1 rfl) ?_
  refine va_get (D := (dC, dI)) (ci := 9) (v := .ref tb) (C := RX9) (T := TX9) (N := 7) hx hb hts i_c_X9_append_8_X9 hown hK hP 0 rfl rfl 0 (by decide) (hts (.fieldLink RX9 11 "OnePassport$Tape" "bytes" "[B") (List.mem_of_getElem? (i := 2) rfl)) (fun _ h9 => h9) rfl dX9_append_18 ?_
  refine lv_aload_n hx hb dX9_append_21 rfl (lv_at hl 1 rfl) ?_
  refine va_get (D := (dC, dI)) (ci := 9) (v := .int 9) (C := RX9) (T := TX9) (N := 7) hx hb hts i_c_X9_append_8_X9 hown hK hP 0 rfl rfl 1 (by decide) (hts (.fieldLink RX9 19 "OnePassport$Tape" "length" "I") (List.mem_of_getElem? (i := 1) rfl)) (fun _ h9 => h9) rfl dX9_append_22 ?_
  refine lv_iload_n hx hb dX9_append_25 rfl (lv_at hl 2 rfl) ?_
  refine lv_iload_n hx hb dX9_append_26 rfl (lv_at hl 0 rfl) ?_
  refine lv_iushr (v := (p0.toUInt32 >>> ((16 : Int32).toUInt32 &&& Int32.toUInt32 31)).toInt32) hx hb dX9_append_27 rfl ?_
  refine lv_i2b (v := ((p0.toUInt32 >>> ((16 : Int32).toUInt32 &&& Int32.toUInt32 31)).toInt32).toInt8.toInt32) hx hb dX9_append_28 rfl ?_
  refine va_bast hx hb hK hP hD hS 1 0 rfl rfl (i := 9) (x := ((p0.toUInt32 >>> ((16 : Int32).toUInt32 &&& Int32.toUInt32 31)).toInt32).toInt8.toInt32) (by unfold vp_in; decide) dX9_append_29 (fun H locs hP hD hS => ?_)
  have hP : va_P (dC, dI) vwCl [(h0, .inr (9, [.ref tb, .int 9, .int 0, .int (-1), .int 0, .int 0, .int 0])), (tb, .inl (cB, 600, .inl (upd (upd (g0) (8 : Int32).toNatClampNeg (vp_nar .byte (((p0.toUInt32 >>> ((24 : Int32).toUInt32 &&& Int32.toUInt32 31)).toInt32).toInt8.toInt32))) (9 : Int32).toNatClampNeg (vp_nar .byte (((p0.toUInt32 >>> ((16 : Int32).toUInt32 &&& Int32.toUInt32 31)).toInt32).toInt8.toInt32)))))] H := hP
  have hD : va_D A [(h0, .inr (9, [.ref tb, .int 9, .int 0, .int (-1), .int 0, .int 0, .int 0])), (tb, .inl (cB, 600, .inl (upd (upd (g0) (8 : Int32).toNatClampNeg (vp_nar .byte (((p0.toUInt32 >>> ((24 : Int32).toUInt32 &&& Int32.toUInt32 31)).toInt32).toInt8.toInt32))) (9 : Int32).toNatClampNeg (vp_nar .byte (((p0.toUInt32 >>> ((16 : Int32).toUInt32 &&& Int32.toUInt32 31)).toInt32).toInt8.toInt32)))))] := hD
  refine lv_aload_n hx hb dX9_append_30 rfl (lv_at hl 1 rfl) ?_
  refine lv_dup hx hb dX9_append_31 rfl ?_
  refine va_get (D := (dC, dI)) (ci := 9) (v := .int 9) (C := RX9) (T := TX9) (N := 7) hx hb hts i_c_X9_append_8_X9 hown hK hP 0 rfl rfl 1 (by decide) (hts (.fieldLink RX9 19 "OnePassport$Tape" "length" "I") (List.mem_of_getElem? (i := 1) rfl)) (fun _ h9 => h9) rfl dX9_append_32 ?_
  refine lv_iconst (v := 1) hx hb dX9_append_35 (by decide) ?_
  refine lv_iadd hx hb dX9_append_36 ?_
  refine wx_ti (y := 10) (by decide) ?_
  refine va_put (D := (dC, dI)) (ci := 9) (v := .int 10) (ty := .int) (C := RX9) (T := TX9) (N := 7) hx hb hts i_c_X9_append_8_X9 tyX9 tyX9_ok nmX9 hown hK hP hD hS 0 rfl rfl 1 (by decide) (hts (.fieldLink RX9 19 "OnePassport$Tape" "length" "I") (List.mem_of_getElem? (i := 1) rfl)) (fun _ h9 => h9) rfl (by decide +kernel) rfl rfl (Nat.le_of_ble_eq_true rfl) dX9_append_37 (fun H locs hP hD hS => ?_)
  have hP : va_P (dC, dI) vwCl [(h0, .inr (9, [.ref tb, .int 10, .int 0, .int (-1), .int 0, .int 0, .int 0])), (tb, .inl (cB, 600, .inl (upd (upd (g0) (8 : Int32).toNatClampNeg (vp_nar .byte (((p0.toUInt32 >>> ((24 : Int32).toUInt32 &&& Int32.toUInt32 31)).toInt32).toInt8.toInt32))) (9 : Int32).toNatClampNeg (vp_nar .byte (((p0.toUInt32 >>> ((16 : Int32).toUInt32 &&& Int32.toUInt32 31)).toInt32).toInt8.toInt32)))))] H := hP
  have hD : va_D A [(h0, .inr (9, [.ref tb, .int 10, .int 0, .int (-1), .int 0, .int 0, .int 0])), (tb, .inl (cB, 600, .inl (upd (upd (g0) (8 : Int32).toNatClampNeg (vp_nar .byte (((p0.toUInt32 >>> ((24 : Int32).toUInt32 &&& Int32.toUInt32 31)).toInt32).toInt8.toInt32))) (9 : Int32).toNatClampNeg (vp_nar .byte (((p0.toUInt32 >>> ((16 : Int32).toUInt32 &&& Int32.toUInt32 31)).toInt32).toInt8.toInt32)))))] := hD
  refine lv_iinc (v := 8) (lv' := [(2, .int 8), (0, .ref h0), (1, .int p0)]) hx hb dX9_append_40 hl (k := 0) rfl (by decide) (by decide) rfl (fun ls hl => ?_)
  refine lv_goto (tgt := 3) hx hb dX9_append_43 (by decide) ?_
  refine lv_iload_n hx hb dX9_append_3 rfl (lv_at hl 0 rfl) ?_
  refine lv_if_lt (tgt := 46) hx hb dX9_append_4 (by decide) (fun c_5 => absurd c_5 (by decide)) (fun c_5 => ?_)
  refine lv_aload_n hx hb dX9_append_7 rfl (lv_at hl 1 rfl) ?_
  refine va_get (D := (dC, dI)) (ci := 9) (v := .int 10) (C := RX9) (T := TX9) (N := 7) hx hb hts i_c_X9_append_8_X9 hown hK hP 0 rfl rfl 1 (by decide) (hts (.fieldLink RX9 19 "OnePassport$Tape" "length" "I") (List.mem_of_getElem? (i := 1) rfl)) (fun _ h9 => h9) rfl dX9_append_8 ?_
  refine lv_sipush (v := 600) hx hb dX9_append_11 (by decide) ?_
  refine lv_icmp_ge (tgt := 46) hx hb dX9_append_14 (by decide) (fun c_6 => absurd c_6 (by decide)) (fun c_6 => ?_)
  refine lv_aload_n hx hb dX9_append_17 rfl (lv_at hl 1 rfl) ?_
  refine va_get (D := (dC, dI)) (ci := 9) (v := .ref tb) (C := RX9) (T := TX9) (N := 7) hx hb hts i_c_X9_append_8_X9 hown hK hP 0 rfl rfl 0 (by decide) (hts (.fieldLink RX9 11 "OnePassport$Tape" "bytes" "[B") (List.mem_of_getElem? (i := 2) rfl)) (fun _ h9 => h9) rfl dX9_append_18 ?_
  refine lv_aload_n hx hb dX9_append_21 rfl (lv_at hl 1 rfl) ?_
  refine va_get (D := (dC, dI)) (ci := 9) (v := .int 10) (C := RX9) (T := TX9) (N := 7) hx hb hts i_c_X9_append_8_X9 hown hK hP 0 rfl rfl 1 (by decide) (hts (.fieldLink RX9 19 "OnePassport$Tape" "length" "I") (List.mem_of_getElem? (i := 1) rfl)) (fun _ h9 => h9) rfl dX9_append_22 ?_
  refine lv_iload_n hx hb dX9_append_25 rfl (lv_at hl 2 rfl) ?_
  refine lv_iload_n hx hb dX9_append_26 rfl (lv_at hl 0 rfl) ?_
  refine lv_iushr (v := (p0.toUInt32 >>> ((8 : Int32).toUInt32 &&& Int32.toUInt32 31)).toInt32) hx hb dX9_append_27 rfl ?_
  refine lv_i2b (v := ((p0.toUInt32 >>> ((8 : Int32).toUInt32 &&& Int32.toUInt32 31)).toInt32).toInt8.toInt32) hx hb dX9_append_28 rfl ?_
  refine va_bast hx hb hK hP hD hS 1 0 rfl rfl (i := 10) (x := ((p0.toUInt32 >>> ((8 : Int32).toUInt32 &&& Int32.toUInt32 31)).toInt32).toInt8.toInt32) (by unfold vp_in; decide) dX9_append_29 (fun H locs hP hD hS => ?_)
  have hP : va_P (dC, dI) vwCl [(h0, .inr (9, [.ref tb, .int 10, .int 0, .int (-1), .int 0, .int 0, .int 0])), (tb, .inl (cB, 600, .inl (upd (upd (upd (g0) (8 : Int32).toNatClampNeg (vp_nar .byte (((p0.toUInt32 >>> ((24 : Int32).toUInt32 &&& Int32.toUInt32 31)).toInt32).toInt8.toInt32))) (9 : Int32).toNatClampNeg (vp_nar .byte (((p0.toUInt32 >>> ((16 : Int32).toUInt32 &&& Int32.toUInt32 31)).toInt32).toInt8.toInt32))) (10 : Int32).toNatClampNeg (vp_nar .byte (((p0.toUInt32 >>> ((8 : Int32).toUInt32 &&& Int32.toUInt32 31)).toInt32).toInt8.toInt32)))))] H := hP
  have hD : va_D A [(h0, .inr (9, [.ref tb, .int 10, .int 0, .int (-1), .int 0, .int 0, .int 0])), (tb, .inl (cB, 600, .inl (upd (upd (upd (g0) (8 : Int32).toNatClampNeg (vp_nar .byte (((p0.toUInt32 >>> ((24 : Int32).toUInt32 &&& Int32.toUInt32 31)).toInt32).toInt8.toInt32))) (9 : Int32).toNatClampNeg (vp_nar .byte (((p0.toUInt32 >>> ((16 : Int32).toUInt32 &&& Int32.toUInt32 31)).toInt32).toInt8.toInt32))) (10 : Int32).toNatClampNeg (vp_nar .byte (((p0.toUInt32 >>> ((8 : Int32).toUInt32 &&& Int32.toUInt32 31)).toInt32).toInt8.toInt32)))))] := hD
  refine lv_aload_n hx hb dX9_append_30 rfl (lv_at hl 1 rfl) ?_
  refine lv_dup hx hb dX9_append_31 rfl ?_
  refine va_get (D := (dC, dI)) (ci := 9) (v := .int 10) (C := RX9) (T := TX9) (N := 7) hx hb hts i_c_X9_append_8_X9 hown hK hP 0 rfl rfl 1 (by decide) (hts (.fieldLink RX9 19 "OnePassport$Tape" "length" "I") (List.mem_of_getElem? (i := 1) rfl)) (fun _ h9 => h9) rfl dX9_append_32 ?_
  refine lv_iconst (v := 1) hx hb dX9_append_35 (by decide) ?_
  refine lv_iadd hx hb dX9_append_36 ?_
  refine wx_ti (y := 11) (by decide) ?_
  refine va_put (D := (dC, dI)) (ci := 9) (v := .int 11) (ty := .int) (C := RX9) (T := TX9) (N := 7) hx hb hts i_c_X9_append_8_X9 tyX9 tyX9_ok nmX9 hown hK hP hD hS 0 rfl rfl 1 (by decide) (hts (.fieldLink RX9 19 "OnePassport$Tape" "length" "I") (List.mem_of_getElem? (i := 1) rfl)) (fun _ h9 => h9) rfl (by decide +kernel) rfl rfl (Nat.le_of_ble_eq_true rfl) dX9_append_37 (fun H locs hP hD hS => ?_)
  have hP : va_P (dC, dI) vwCl [(h0, .inr (9, [.ref tb, .int 11, .int 0, .int (-1), .int 0, .int 0, .int 0])), (tb, .inl (cB, 600, .inl (upd (upd (upd (g0) (8 : Int32).toNatClampNeg (vp_nar .byte (((p0.toUInt32 >>> ((24 : Int32).toUInt32 &&& Int32.toUInt32 31)).toInt32).toInt8.toInt32))) (9 : Int32).toNatClampNeg (vp_nar .byte (((p0.toUInt32 >>> ((16 : Int32).toUInt32 &&& Int32.toUInt32 31)).toInt32).toInt8.toInt32))) (10 : Int32).toNatClampNeg (vp_nar .byte (((p0.toUInt32 >>> ((8 : Int32).toUInt32 &&& Int32.toUInt32 31)).toInt32).toInt8.toInt32)))))] H := hP
  have hD : va_D A [(h0, .inr (9, [.ref tb, .int 11, .int 0, .int (-1), .int 0, .int 0, .int 0])), (tb, .inl (cB, 600, .inl (upd (upd (upd (g0) (8 : Int32).toNatClampNeg (vp_nar .byte (((p0.toUInt32 >>> ((24 : Int32).toUInt32 &&& Int32.toUInt32 31)).toInt32).toInt8.toInt32))) (9 : Int32).toNatClampNeg (vp_nar .byte (((p0.toUInt32 >>> ((16 : Int32).toUInt32 &&& Int32.toUInt32 31)).toInt32).toInt8.toInt32))) (10 : Int32).toNatClampNeg (vp_nar .byte (((p0.toUInt32 >>> ((8 : Int32).toUInt32 &&& Int32.toUInt32 31)).toInt32).toInt8.toInt32)))))] := hD
  refine lv_iinc (v := 0) (lv' := [(2, .int 0), (0, .ref h0), (1, .int p0)]) hx hb dX9_append_40 hl (k := 0) rfl (by decide) (by decide) rfl (fun ls hl => ?_)
  refine lv_goto (tgt := 3) hx hb dX9_append_43 (by decide) ?_
  refine lv_iload_n hx hb dX9_append_3 rfl (lv_at hl 0 rfl) ?_
  refine lv_if_lt (tgt := 46) hx hb dX9_append_4 (by decide) (fun c_7 => absurd c_7 (by decide)) (fun c_7 => ?_)
  refine lv_aload_n hx hb dX9_append_7 rfl (lv_at hl 1 rfl) ?_
  refine va_get (D := (dC, dI)) (ci := 9) (v := .int 11) (C := RX9) (T := TX9) (N := 7) hx hb hts i_c_X9_append_8_X9 hown hK hP 0 rfl rfl 1 (by decide) (hts (.fieldLink RX9 19 "OnePassport$Tape" "length" "I") (List.mem_of_getElem? (i := 1) rfl)) (fun _ h9 => h9) rfl dX9_append_8 ?_
  refine lv_sipush (v := 600) hx hb dX9_append_11 (by decide) ?_
  refine lv_icmp_ge (tgt := 46) hx hb dX9_append_14 (by decide) (fun c_8 => absurd c_8 (by decide)) (fun c_8 => ?_)
  refine lv_aload_n hx hb dX9_append_17 rfl (lv_at hl 1 rfl) ?_
  refine va_get (D := (dC, dI)) (ci := 9) (v := .ref tb) (C := RX9) (T := TX9) (N := 7) hx hb hts i_c_X9_append_8_X9 hown hK hP 0 rfl rfl 0 (by decide) (hts (.fieldLink RX9 11 "OnePassport$Tape" "bytes" "[B") (List.mem_of_getElem? (i := 2) rfl)) (fun _ h9 => h9) rfl dX9_append_18 ?_
  refine lv_aload_n hx hb dX9_append_21 rfl (lv_at hl 1 rfl) ?_
  refine va_get (D := (dC, dI)) (ci := 9) (v := .int 11) (C := RX9) (T := TX9) (N := 7) hx hb hts i_c_X9_append_8_X9 hown hK hP 0 rfl rfl 1 (by decide) (hts (.fieldLink RX9 19 "OnePassport$Tape" "length" "I") (List.mem_of_getElem? (i := 1) rfl)) (fun _ h9 => h9) rfl dX9_append_22 ?_
  refine lv_iload_n hx hb dX9_append_25 rfl (lv_at hl 2 rfl) ?_
  refine lv_iload_n hx hb dX9_append_26 rfl (lv_at hl 0 rfl) ?_
  refine lv_iushr (v := (p0.toUInt32 >>> ((0 : Int32).toUInt32 &&& Int32.toUInt32 31)).toInt32) hx hb dX9_append_27 rfl ?_
  refine lv_i2b (v := ((p0.toUInt32 >>> ((0 : Int32).toUInt32 &&& Int32.toUInt32 31)).toInt32).toInt8.toInt32) hx hb dX9_append_28 rfl ?_
  refine va_bast hx hb hK hP hD hS 1 0 rfl rfl (i := 11) (x := ((p0.toUInt32 >>> ((0 : Int32).toUInt32 &&& Int32.toUInt32 31)).toInt32).toInt8.toInt32) (by unfold vp_in; decide) dX9_append_29 (fun H locs hP hD hS => ?_)
  have hP : va_P (dC, dI) vwCl [(h0, .inr (9, [.ref tb, .int 11, .int 0, .int (-1), .int 0, .int 0, .int 0])), (tb, .inl (cB, 600, .inl (upd (upd (upd (upd (g0) (8 : Int32).toNatClampNeg (vp_nar .byte (((p0.toUInt32 >>> ((24 : Int32).toUInt32 &&& Int32.toUInt32 31)).toInt32).toInt8.toInt32))) (9 : Int32).toNatClampNeg (vp_nar .byte (((p0.toUInt32 >>> ((16 : Int32).toUInt32 &&& Int32.toUInt32 31)).toInt32).toInt8.toInt32))) (10 : Int32).toNatClampNeg (vp_nar .byte (((p0.toUInt32 >>> ((8 : Int32).toUInt32 &&& Int32.toUInt32 31)).toInt32).toInt8.toInt32))) (11 : Int32).toNatClampNeg (vp_nar .byte (((p0.toUInt32 >>> ((0 : Int32).toUInt32 &&& Int32.toUInt32 31)).toInt32).toInt8.toInt32)))))] H := hP
  have hD : va_D A [(h0, .inr (9, [.ref tb, .int 11, .int 0, .int (-1), .int 0, .int 0, .int 0])), (tb, .inl (cB, 600, .inl (upd (upd (upd (upd (g0) (8 : Int32).toNatClampNeg (vp_nar .byte (((p0.toUInt32 >>> ((24 : Int32).toUInt32 &&& Int32.toUInt32 31)).toInt32).toInt8.toInt32))) (9 : Int32).toNatClampNeg (vp_nar .byte (((p0.toUInt32 >>> ((16 : Int32).toUInt32 &&& Int32.toUInt32 31)).toInt32).toInt8.toInt32))) (10 : Int32).toNatClampNeg (vp_nar .byte (((p0.toUInt32 >>> ((8 : Int32).toUInt32 &&& Int32.toUInt32 31)).toInt32).toInt8.toInt32))) (11 : Int32).toNatClampNeg (vp_nar .byte (((p0.toUInt32 >>> ((0 : Int32).toUInt32 &&& Int32.toUInt32 31)).toInt32).toInt8.toInt32)))))] := hD
  refine lv_aload_n hx hb dX9_append_30 rfl (lv_at hl 1 rfl) ?_
  refine lv_dup hx hb dX9_append_31 rfl ?_
  refine va_get (D := (dC, dI)) (ci := 9) (v := .int 11) (C := RX9) (T := TX9) (N := 7) hx hb hts i_c_X9_append_8_X9 hown hK hP 0 rfl rfl 1 (by decide) (hts (.fieldLink RX9 19 "OnePassport$Tape" "length" "I") (List.mem_of_getElem? (i := 1) rfl)) (fun _ h9 => h9) rfl dX9_append_32 ?_
  refine lv_iconst (v := 1) hx hb dX9_append_35 (by decide) ?_
  refine lv_iadd hx hb dX9_append_36 ?_
  refine wx_ti (y := 12) (by decide) ?_
  refine va_put (D := (dC, dI)) (ci := 9) (v := .int 12) (ty := .int) (C := RX9) (T := TX9) (N := 7) hx hb hts i_c_X9_append_8_X9 tyX9 tyX9_ok nmX9 hown hK hP hD hS 0 rfl rfl 1 (by decide) (hts (.fieldLink RX9 19 "OnePassport$Tape" "length" "I") (List.mem_of_getElem? (i := 1) rfl)) (fun _ h9 => h9) rfl (by decide +kernel) rfl rfl (Nat.le_of_ble_eq_true rfl) dX9_append_37 (fun H locs hP hD hS => ?_)
  have hP : va_P (dC, dI) vwCl [(h0, .inr (9, [.ref tb, .int 12, .int 0, .int (-1), .int 0, .int 0, .int 0])), (tb, .inl (cB, 600, .inl (upd (upd (upd (upd (g0) (8 : Int32).toNatClampNeg (vp_nar .byte (((p0.toUInt32 >>> ((24 : Int32).toUInt32 &&& Int32.toUInt32 31)).toInt32).toInt8.toInt32))) (9 : Int32).toNatClampNeg (vp_nar .byte (((p0.toUInt32 >>> ((16 : Int32).toUInt32 &&& Int32.toUInt32 31)).toInt32).toInt8.toInt32))) (10 : Int32).toNatClampNeg (vp_nar .byte (((p0.toUInt32 >>> ((8 : Int32).toUInt32 &&& Int32.toUInt32 31)).toInt32).toInt8.toInt32))) (11 : Int32).toNatClampNeg (vp_nar .byte (((p0.toUInt32 >>> ((0 : Int32).toUInt32 &&& Int32.toUInt32 31)).toInt32).toInt8.toInt32)))))] H := hP
  have hD : va_D A [(h0, .inr (9, [.ref tb, .int 12, .int 0, .int (-1), .int 0, .int 0, .int 0])), (tb, .inl (cB, 600, .inl (upd (upd (upd (upd (g0) (8 : Int32).toNatClampNeg (vp_nar .byte (((p0.toUInt32 >>> ((24 : Int32).toUInt32 &&& Int32.toUInt32 31)).toInt32).toInt8.toInt32))) (9 : Int32).toNatClampNeg (vp_nar .byte (((p0.toUInt32 >>> ((16 : Int32).toUInt32 &&& Int32.toUInt32 31)).toInt32).toInt8.toInt32))) (10 : Int32).toNatClampNeg (vp_nar .byte (((p0.toUInt32 >>> ((8 : Int32).toUInt32 &&& Int32.toUInt32 31)).toInt32).toInt8.toInt32))) (11 : Int32).toNatClampNeg (vp_nar .byte (((p0.toUInt32 >>> ((0 : Int32).toUInt32 &&& Int32.toUInt32 31)).toInt32).toInt8.toInt32)))))] := hD
  refine lv_iinc (v := (-8)) (lv' := [(2, .int (-8)), (0, .ref h0), (1, .int p0)]) hx hb dX9_append_40 hl (k := 0) rfl (by decide) (by decide) rfl (fun ls hl => ?_)
  refine lv_goto (tgt := 3) hx hb dX9_append_43 (by decide) ?_
  refine lv_iload_n hx hb dX9_append_3 rfl (lv_at hl 0 rfl) ?_
  refine lv_if_lt (tgt := 46) hx hb dX9_append_4 (by decide) (fun c_9 => ?_) (fun c_9 => absurd (by decide) c_9)
  have hP9 := hP.sub (ws' := [(h0, .inr (9, [.ref tb, .int 12, .int 0, .int (-1), .int 0, .int 0, .int 0])), (tb, .inl (cB, 600, .inl ((upd (upd (upd (upd (g0) (8 : Int32).toNatClampNeg (vp_nar .byte (((p0.toUInt32 >>> ((24 : Int32).toUInt32 &&& Int32.toUInt32 31)).toInt32).toInt8.toInt32))) (9 : Int32).toNatClampNeg (vp_nar .byte (((p0.toUInt32 >>> ((16 : Int32).toUInt32 &&& Int32.toUInt32 31)).toInt32).toInt8.toInt32))) (10 : Int32).toNatClampNeg (vp_nar .byte (((p0.toUInt32 >>> ((8 : Int32).toUInt32 &&& Int32.toUInt32 31)).toInt32).toInt8.toInt32))) (11 : Int32).toNatClampNeg (vp_nar .byte (((p0.toUInt32 >>> ((0 : Int32).toUInt32 &&& Int32.toUInt32 31)).toInt32).toInt8.toInt32))))))]) [0, 1] rfl
  have hD9 := hD.sub (ws' := [(h0, .inr (9, [.ref tb, .int 12, .int 0, .int (-1), .int 0, .int 0, .int 0])), (tb, .inl (cB, 600, .inl ((upd (upd (upd (upd (g0) (8 : Int32).toNatClampNeg (vp_nar .byte (((p0.toUInt32 >>> ((24 : Int32).toUInt32 &&& Int32.toUInt32 31)).toInt32).toInt8.toInt32))) (9 : Int32).toNatClampNeg (vp_nar .byte (((p0.toUInt32 >>> ((16 : Int32).toUInt32 &&& Int32.toUInt32 31)).toInt32).toInt8.toInt32))) (10 : Int32).toNatClampNeg (vp_nar .byte (((p0.toUInt32 >>> ((8 : Int32).toUInt32 &&& Int32.toUInt32 31)).toInt32).toInt8.toInt32))) (11 : Int32).toNatClampNeg (vp_nar .byte (((p0.toUInt32 >>> ((0 : Int32).toUInt32 &&& Int32.toUInt32 31)).toInt32).toInt8.toInt32))))))]) [0, 1] (by decide) rfl
  exact W.vret hx hb hr (fun t ht hW => ⟨⟨(), rfl, trivial, (upd (upd (upd (upd (g0) (8 : Int32).toNatClampNeg (vp_nar .byte (((p0.toUInt32 >>> ((24 : Int32).toUInt32 &&& Int32.toUInt32 31)).toInt32).toInt8.toInt32))) (9 : Int32).toNatClampNeg (vp_nar .byte (((p0.toUInt32 >>> ((16 : Int32).toUInt32 &&& Int32.toUInt32 31)).toInt32).toInt8.toInt32))) (10 : Int32).toNatClampNeg (vp_nar .byte (((p0.toUInt32 >>> ((8 : Int32).toUInt32 &&& Int32.toUInt32 31)).toInt32).toInt8.toInt32))) (11 : Int32).toNatClampNeg (vp_nar .byte (((p0.toUInt32 >>> ((0 : Int32).toUInt32 &&& Int32.toUInt32 31)).toInt32).toInt8.toInt32))), by rw [ht]; exact hP9, va_K.moved hW.alike hK, hD9⟩, hS.F ht⟩) hS.2.2 dX9_append_46


def w_c_X9_append_12 : List Cond := .code yX9_append cX9_append 3 none :: ([.fieldLink RX9 19 "OnePassport$Tape" "length" "I", .fieldLink RX9 11 "OnePassport$Tape" "bytes" "[B"] ++ wsX90)
theorem i_c_X9_append_12_X9 : ∀ w ∈ wsX90, w ∈ w_c_X9_append_12 := fun _ h => List.mem_cons_of_mem _ (List.mem_append_right _ h)
set_option maxHeartbeats 4000000 in
set_option maxRecDepth 100000 in
theorem c_X9_append_12 (l : Launch) (dC : Nat → ClassId) (dI : Nat → Nat → Nat) (cB : ClassId) (h0 : Nat) (tb : Nat) (p0 : Int32) (g0 : Nat → Int32) (sz : Nat) : Met l yX9_append w_c_X9_append_12 ({ frames := 0, cells := 0, slots := 0, locals := 0 }) (va_Pc [.ref h0, .int p0] (fun U => U.heap.size = sz ∧ va_P (dC, dI) vwCl [(h0, .inr (9, [.ref tb, .int 12, .int 0, .int (-1), .int 0, .int 0, .int 0])), (tb, .inl (cB, 600, .inl (g0)))] U.heap ∧ va_K (dC, dI) vwCl [(cB, .byte)] U ∧ va_D (fun _ => True) [(h0, .inr (9, [.ref tb, .int 12, .int 0, .int (-1), .int 0, .int 0, .int 0])), (tb, .inl (cB, 600, .inl (g0)))])) (va_Qv (fun _ : Unit => True) (fun (_ : Unit) (t : State) => ∃ (g1 : Nat → Int32), va_P (dC, dI) vwCl [(h0, .inr (9, [.ref tb, .int 16, .int 0, .int (-1), .int 0, .int 0, .int 0])), (tb, .inl (cB, 600, .inl (g1)))] t.heap ∧ va_K (dC, dI) vwCl [(cB, .byte)] t ∧ va_D (va_A [(h0, .inr (9, [.ref tb, .int 12, .int 0, .int (-1), .int 0, .int 0, .int 0])), (tb, .inl (cB, 600, .inl (g0)))] sz) [(h0, .inr (9, [.ref tb, .int 16, .int 0, .int (-1), .int 0, .int 0, .int 0])), (tb, .inl (cB, 600, .inl (g1)))]) (va_A [(h0, .inr (9, [.ref tb, .int 12, .int 0, .int (-1), .int 0, .int 0, .int 0])), (tb, .inl (cB, 600, .inl (g0)))] sz)) 0 0 (va_A [(h0, .inr (9, [.ref tb, .int 12, .int 0, .int (-1), .int 0, .int 0, .int 0])), (tb, .inl (cB, 600, .inl (g0)))] sz) := by
  refine Met.ofW (cc := cX9_append) (maxL := 3) (ret := none) (by decide) rfl ?_
  intro p e s m args below meth c s₁ B hml hv
  obtain ⟨rfl, hsz, hP, hK, hD0⟩ := hv
  have hx := B.exec
  have hb := B.bytes
  have hr := B.returns
  have hts := atoms_spec (ws := w_c_X9_append_12) B.pre
  have hown : s.vm.findClass RX9 = some m.cls := findClass_of_methodNamed B.named
  have hlocks := B.notSynchronized
  subst hsz
  have hD := hD0.self (sz := s.heap.size)
  generalize hAe : va_A [(h0, .inr (9, [.ref tb, .int 12, .int 0, .int (-1), .int 0, .int 0, .int 0])), (tb, .inl (cB, 600, .inl (g0)))] s.heap.size = A at hD ⊢
  have hA : ∀ q : Nat, s.heap.size ≤ q → A q := fun q h => by rw [← hAe]; exact Or.inr h
  have hS : va_S A s.heap s.heap [] := va_S.rf
  have hP : va_P (dC, dI) vwCl [(h0, .inr (9, [.ref tb, .int 12, .int 0, .int (-1), .int 0, .int 0, .int 0])), (tb, .inl (cB, 600, .inl (g0)))] s.heap := hP
  have hl := lv_entry ([.ref h0, .int p0]) (n := 3) (Nat.le_of_ble_eq_true rfl)
  rw [lg_entry_eq]
  generalize (lg_sl ([.ref h0, .int p0]) ++ List.replicate (3 - (lg_sl ([.ref h0, .int p0])).length) Slot.unset).toArray = ls at hl ⊢
  have hl : lv_has ls 3 [(0, .ref h0), (1, .int p0)] := hl
  refine lv_bipush (v := 24) hx hb dX9_append_0 (by decide) ?_
  refine lv_istore_n (lv' := [(2, .int 24), (0, .ref h0), (1, .int p0)]) hx hb dX9_append_2 rfl hl (by decide) rfl (fun ls hl => ?_)
  refine lv_iload_n hx hb dX9_append_3 rfl (lv_at hl 0 rfl) ?_
  refine lv_if_lt (tgt := 46) hx hb dX9_append_4 (by decide) (fun c_1 => absurd c_1 (by decide)) (fun c_1 => ?_)
  refine lv_aload_n hx hb dX9_append_7 rfl (lv_at hl 1 rfl) ?_
  refine va_get (D := (dC, dI)) (ci := 9) (v := .int 12) (C := RX9) (T := TX9) (N := 7) hx hb hts i_c_X9_append_12_X9 hown hK hP 0 rfl rfl 1 (by decide) (hts (.fieldLink RX9 19 "OnePassport$Tape" "length" "I") (List.mem_of_getElem? (i := 1) rfl)) (fun _ h9 => h9) rfl dX9_append_8 ?_
  refine lv_sipush (v := 600) hx hb dX9_append_11 (by decide) ?_
  refine lv_icmp_ge (tgt := 46) hx hb dX9_append_14 (by decide) (fun c_2 => absurd c_2 (by decide)) (fun c_2 => ?_)
  refine lv_aload_n hx hb dX9_append_17 rfl (lv_at hl 1 rfl) ?_
  refine va_get (D := (dC, dI)) (ci := 9) (v := .ref tb) (C := RX9) (T := TX9) (N := 7) hx hb hts i_c_X9_append_12_X9 hown hK hP 0 rfl rfl 0 (by decide) (hts (.fieldLink RX9 11 "OnePassport$Tape" "bytes" "[B") (List.mem_of_getElem? (i := 2) rfl)) (fun _ h9 => h9) rfl dX9_append_18 ?_
  refine lv_aload_n hx hb dX9_append_21 rfl (lv_at hl 1 rfl) ?_
  refine va_get (D := (dC, dI)) (ci := 9) (v := .int 12) (C := RX9) (T := TX9) (N := 7) hx hb hts i_c_X9_append_12_X9 hown hK hP 0 rfl rfl 1 (by decide) (hts (.fieldLink RX9 19 "OnePassport$Tape" "length" "I") (List.mem_of_getElem? (i := 1) rfl)) (fun _ h9 => h9) rfl dX9_append_22 ?_
  refine lv_iload_n hx hb dX9_append_25 rfl (lv_at hl 2 rfl) ?_
  refine lv_iload_n hx hb dX9_append_26 rfl (lv_at hl 0 rfl) ?_
  refine lv_iushr (v := (p0.toUInt32 >>> ((24 : Int32).toUInt32 &&& Int32.toUInt32 31)).toInt32) hx hb dX9_append_27 rfl ?_
  refine lv_i2b (v := ((p0.toUInt32 >>> ((24 : Int32).toUInt32 &&& Int32.toUInt32 31)).toInt32).toInt8.toInt32) hx hb dX9_append_28 rfl ?_
  refine va_bast hx hb hK hP hD hS 1 0 rfl rfl (i := 12) (x := ((p0.toUInt32 >>> ((24 : Int32).toUInt32 &&& Int32.toUInt32 31)).toInt32).toInt8.toInt32) (by unfold vp_in; decide) dX9_append_29 (fun H locs hP hD hS => ?_)
  have hP : va_P (dC, dI) vwCl [(h0, .inr (9, [.ref tb, .int 12, .int 0, .int (-1), .int 0, .int 0, .int 0])), (tb, .inl (cB, 600, .inl (upd (g0) (12 : Int32).toNatClampNeg (vp_nar .byte (((p0.toUInt32 >>> ((24 : Int32).toUInt32 &&& Int32.toUInt32 31)).toInt32).toInt8.toInt32)))))] H := hP
  have hD : va_D A [(h0, .inr (9, [.ref tb, .int 12, .int 0, .int (-1), .int 0, .int 0, .int 0])), (tb, .inl (cB, 600, .inl (upd (g0) (12 : Int32).toNatClampNeg (vp_nar .byte (((p0.toUInt32 >>> ((24 : Int32).toUInt32 &&& Int32.toUInt32 31)).toInt32).toInt8.toInt32)))))] := hD
  refine lv_aload_n hx hb dX9_append_30 rfl (lv_at hl 1 rfl) ?_
  refine lv_dup hx hb dX9_append_31 rfl ?_
  refine va_get (D := (dC, dI)) (ci := 9) (v := .int 12) (C := RX9) (T := TX9) (N := 7) hx hb hts i_c_X9_append_12_X9 hown hK hP 0 rfl rfl 1 (by decide) (hts (.fieldLink RX9 19 "OnePassport$Tape" "length" "I") (List.mem_of_getElem? (i := 1) rfl)) (fun _ h9 => h9) rfl dX9_append_32 ?_
  refine lv_iconst (v := 1) hx hb dX9_append_35 (by decide) ?_
  refine lv_iadd hx hb dX9_append_36 ?_
  refine wx_ti (y := 13) (by decide) ?_
  refine va_put (D := (dC, dI)) (ci := 9) (v := .int 13) (ty := .int) (C := RX9) (T := TX9) (N := 7) hx hb hts i_c_X9_append_12_X9 tyX9 tyX9_ok nmX9 hown hK hP hD hS 0 rfl rfl 1 (by decide) (hts (.fieldLink RX9 19 "OnePassport$Tape" "length" "I") (List.mem_of_getElem? (i := 1) rfl)) (fun _ h9 => h9) rfl (by decide +kernel) rfl rfl (Nat.le_of_ble_eq_true rfl) dX9_append_37 (fun H locs hP hD hS => ?_)
  have hP : va_P (dC, dI) vwCl [(h0, .inr (9, [.ref tb, .int 13, .int 0, .int (-1), .int 0, .int 0, .int 0])), (tb, .inl (cB, 600, .inl (upd (g0) (12 : Int32).toNatClampNeg (vp_nar .byte (((p0.toUInt32 >>> ((24 : Int32).toUInt32 &&& Int32.toUInt32 31)).toInt32).toInt8.toInt32)))))] H := hP
  have hD : va_D A [(h0, .inr (9, [.ref tb, .int 13, .int 0, .int (-1), .int 0, .int 0, .int 0])), (tb, .inl (cB, 600, .inl (upd (g0) (12 : Int32).toNatClampNeg (vp_nar .byte (((p0.toUInt32 >>> ((24 : Int32).toUInt32 &&& Int32.toUInt32 31)).toInt32).toInt8.toInt32)))))] := hD
  refine lv_iinc (v := 16) (lv' := [(2, .int 16), (0, .ref h0), (1, .int p0)]) hx hb dX9_append_40 hl (k := 0) rfl (by decide) (by decide) rfl (fun ls hl => ?_)
  refine lv_goto (tgt := 3) hx hb dX9_append_43 (by decide) ?_
  refine lv_iload_n hx hb dX9_append_3 rfl (lv_at hl 0 rfl) ?_
  refine lv_if_lt (tgt := 46) hx hb dX9_append_4 (by decide) (fun c_3 => absurd c_3 (by decide)) (fun c_3 => ?_)
  refine lv_aload_n hx hb dX9_append_7 rfl (lv_at hl 1 rfl) ?_
  refine va_get (D := (dC, dI)) (ci := 9) (v := .int 13) (C := RX9) (T := TX9) (N := 7) hx hb hts i_c_X9_append_12_X9 hown hK hP 0 rfl rfl 1 (by decide) (hts (.fieldLink RX9 19 "OnePassport$Tape" "length" "I") (List.mem_of_getElem? (i := 1) rfl)) (fun _ h9 => h9) rfl dX9_append_8 ?_
  refine lv_sipush (v := 600) hx hb dX9_append_11 (by decide) ?_
  refine lv_icmp_ge (tgt := 46) hx hb dX9_append_14 (by decide) (fun c_4 => absurd c_4 (by decide)) (fun c_4 => ?_)
  refine lv_aload_n hx hb dX9_append_17 rfl (lv_at hl 1 rfl) ?_
  refine va_get (D := (dC, dI)) (ci := 9) (v := .ref tb) (C := RX9) (T := TX9) (N := 7) hx hb hts i_c_X9_append_12_X9 hown hK hP 0 rfl rfl 0 (by decide) (hts (.fieldLink RX9 11 "OnePassport$Tape" "bytes" "[B") (List.mem_of_getElem? (i := 2) rfl)) (fun _ h9 => h9) rfl dX9_append_18 ?_
  refine lv_aload_n hx hb dX9_append_21 rfl (lv_at hl 1 rfl) ?_
  refine va_get (D := (dC, dI)) (ci := 9) (v := .int 13) (C := RX9) (T := TX9) (N := 7) hx hb hts i_c_X9_append_12_X9 hown hK hP 0 rfl rfl 1 (by decide) (hts (.fieldLink RX9 19 "OnePassport$Tape" "length" "I") (List.mem_of_getElem? (i := 1) rfl)) (fun _ h9 => h9) rfl dX9_append_22 ?_
  refine lv_iload_n hx hb dX9_append_25 rfl (lv_at hl 2 rfl) ?_
  refine lv_iload_n hx hb dX9_append_26 rfl (lv_at hl 0 rfl) ?_
  refine lv_iushr (v := (p0.toUInt32 >>> ((16 : Int32).toUInt32 &&& Int32.toUInt32 31)).toInt32) hx hb dX9_append_27 rfl ?_
  refine lv_i2b (v := ((p0.toUInt32 >>> ((16 : Int32).toUInt32 &&& Int32.toUInt32 31)).toInt32).toInt8.toInt32) hx hb dX9_append_28 rfl ?_
  refine va_bast hx hb hK hP hD hS 1 0 rfl rfl (i := 13) (x := ((p0.toUInt32 >>> ((16 : Int32).toUInt32 &&& Int32.toUInt32 31)).toInt32).toInt8.toInt32) (by unfold vp_in; decide) dX9_append_29 (fun H locs hP hD hS => ?_)
  have hP : va_P (dC, dI) vwCl [(h0, .inr (9, [.ref tb, .int 13, .int 0, .int (-1), .int 0, .int 0, .int 0])), (tb, .inl (cB, 600, .inl (upd (upd (g0) (12 : Int32).toNatClampNeg (vp_nar .byte (((p0.toUInt32 >>> ((24 : Int32).toUInt32 &&& Int32.toUInt32 31)).toInt32).toInt8.toInt32))) (13 : Int32).toNatClampNeg (vp_nar .byte (((p0.toUInt32 >>> ((16 : Int32).toUInt32 &&& Int32.toUInt32 31)).toInt32).toInt8.toInt32)))))] H := hP
  have hD : va_D A [(h0, .inr (9, [.ref tb, .int 13, .int 0, .int (-1), .int 0, .int 0, .int 0])), (tb, .inl (cB, 600, .inl (upd (upd (g0) (12 : Int32).toNatClampNeg (vp_nar .byte (((p0.toUInt32 >>> ((24 : Int32).toUInt32 &&& Int32.toUInt32 31)).toInt32).toInt8.toInt32))) (13 : Int32).toNatClampNeg (vp_nar .byte (((p0.toUInt32 >>> ((16 : Int32).toUInt32 &&& Int32.toUInt32 31)).toInt32).toInt8.toInt32)))))] := hD
  refine lv_aload_n hx hb dX9_append_30 rfl (lv_at hl 1 rfl) ?_
  refine lv_dup hx hb dX9_append_31 rfl ?_
  refine va_get (D := (dC, dI)) (ci := 9) (v := .int 13) (C := RX9) (T := TX9) (N := 7) hx hb hts i_c_X9_append_12_X9 hown hK hP 0 rfl rfl 1 (by decide) (hts (.fieldLink RX9 19 "OnePassport$Tape" "length" "I") (List.mem_of_getElem? (i := 1) rfl)) (fun _ h9 => h9) rfl dX9_append_32 ?_
  refine lv_iconst (v := 1) hx hb dX9_append_35 (by decide) ?_
  refine lv_iadd hx hb dX9_append_36 ?_
  refine wx_ti (y := 14) (by decide) ?_
  refine va_put (D := (dC, dI)) (ci := 9) (v := .int 14) (ty := .int) (C := RX9) (T := TX9) (N := 7) hx hb hts i_c_X9_append_12_X9 tyX9 tyX9_ok nmX9 hown hK hP hD hS 0 rfl rfl 1 (by decide) (hts (.fieldLink RX9 19 "OnePassport$Tape" "length" "I") (List.mem_of_getElem? (i := 1) rfl)) (fun _ h9 => h9) rfl (by decide +kernel) rfl rfl (Nat.le_of_ble_eq_true rfl) dX9_append_37 (fun H locs hP hD hS => ?_)
  have hP : va_P (dC, dI) vwCl [(h0, .inr (9, [.ref tb, .int 14, .int 0, .int (-1), .int 0, .int 0, .int 0])), (tb, .inl (cB, 600, .inl (upd (upd (g0) (12 : Int32).toNatClampNeg (vp_nar .byte (((p0.toUInt32 >>> ((24 : Int32).toUInt32 &&& Int32.toUInt32 31)).toInt32).toInt8.toInt32))) (13 : Int32).toNatClampNeg (vp_nar .byte (((p0.toUInt32 >>> ((16 : Int32).toUInt32 &&& Int32.toUInt32 31)).toInt32).toInt8.toInt32)))))] H := hP
  have hD : va_D A [(h0, .inr (9, [.ref tb, .int 14, .int 0, .int (-1), .int 0, .int 0, .int 0])), (tb, .inl (cB, 600, .inl (upd (upd (g0) (12 : Int32).toNatClampNeg (vp_nar .byte (((p0.toUInt32 >>> ((24 : Int32).toUInt32 &&& Int32.toUInt32 31)).toInt32).toInt8.toInt32))) (13 : Int32).toNatClampNeg (vp_nar .byte (((p0.toUInt32 >>> ((16 : Int32).toUInt32 &&& Int32.toUInt32 31)).toInt32).toInt8.toInt32)))))] := hD
  refine lv_iinc (v := 8) (lv' := [(2, .int 8), (0, .ref h0), (1, .int p0)]) hx hb dX9_append_40 hl (k := 0) rfl (by decide) (by decide) rfl (fun ls hl => ?_)
  refine lv_goto (tgt := 3) hx hb dX9_append_43 (by decide) ?_
  refine lv_iload_n hx hb dX9_append_3 rfl (lv_at hl 0 rfl) ?_
  refine lv_if_lt (tgt := 46) hx hb dX9_append_4 (by decide) (fun c_5 => absurd c_5 (by decide)) (fun c_5 => ?_)
  refine lv_aload_n hx hb dX9_append_7 rfl (lv_at hl 1 rfl) ?_
  refine va_get (D := (dC, dI)) (ci := 9) (v := .int 14) (C := RX9) (T := TX9) (N := 7) hx hb hts i_c_X9_append_12_X9 hown hK hP 0 rfl rfl 1 (by decide) (hts (.fieldLink RX9 19 "OnePassport$Tape" "length" "I") (List.mem_of_getElem? (i := 1) rfl)) (fun _ h9 => h9) rfl dX9_append_8 ?_
  refine lv_sipush (v := 600) hx hb dX9_append_11 (by decide) ?_
  refine lv_icmp_ge (tgt := 46) hx hb dX9_append_14 (by decide) (fun c_6 => absurd c_6 (by decide)) (fun c_6 => ?_)
  refine lv_aload_n hx hb dX9_append_17 rfl (lv_at hl 1 rfl) ?_
  refine va_get (D := (dC, dI)) (ci := 9) (v := .ref tb) (C := RX9) (T := TX9) (N := 7) hx hb hts i_c_X9_append_12_X9 hown hK hP 0 rfl rfl 0 (by decide) (hts (.fieldLink RX9 11 "OnePassport$Tape" "bytes" "[B") (List.mem_of_getElem? (i := 2) rfl)) (fun _ h9 => h9) rfl dX9_append_18 ?_
  refine lv_aload_n hx hb dX9_append_21 rfl (lv_at hl 1 rfl) ?_
  refine va_get (D := (dC, dI)) (ci := 9) (v := .int 14) (C := RX9) (T := TX9) (N := 7) hx hb hts i_c_X9_append_12_X9 hown hK hP 0 rfl rfl 1 (by decide) (hts (.fieldLink RX9 19 "OnePassport$Tape" "length" "I") (List.mem_of_getElem? (i := 1) rfl)) (fun _ h9 => h9) rfl dX9_append_22 ?_
  refine lv_iload_n hx hb dX9_append_25 rfl (lv_at hl 2 rfl) ?_
  refine lv_iload_n hx hb dX9_append_26 rfl (lv_at hl 0 rfl) ?_
  refine lv_iushr (v := (p0.toUInt32 >>> ((8 : Int32).toUInt32 &&& Int32.toUInt32 31)).toInt32) hx hb dX9_append_27 rfl ?_
  refine lv_i2b (v := ((p0.toUInt32 >>> ((8 : Int32).toUInt32 &&& Int32.toUInt32 31)).toInt32).toInt8.toInt32) hx hb dX9_append_28 rfl ?_
  refine va_bast hx hb hK hP hD hS 1 0 rfl rfl (i := 14) (x := ((p0.toUInt32 >>> ((8 : Int32).toUInt32 &&& Int32.toUInt32 31)).toInt32).toInt8.toInt32) (by unfold vp_in; decide) dX9_append_29 (fun H locs hP hD hS => ?_)
  have hP : va_P (dC, dI) vwCl [(h0, .inr (9, [.ref tb, .int 14, .int 0, .int (-1), .int 0, .int 0, .int 0])), (tb, .inl (cB, 600, .inl (upd (upd (upd (g0) (12 : Int32).toNatClampNeg (vp_nar .byte (((p0.toUInt32 >>> ((24 : Int32).toUInt32 &&& Int32.toUInt32 31)).toInt32).toInt8.toInt32))) (13 : Int32).toNatClampNeg (vp_nar .byte (((p0.toUInt32 >>> ((16 : Int32).toUInt32 &&& Int32.toUInt32 31)).toInt32).toInt8.toInt32))) (14 : Int32).toNatClampNeg (vp_nar .byte (((p0.toUInt32 >>> ((8 : Int32).toUInt32 &&& Int32.toUInt32 31)).toInt32).toInt8.toInt32)))))] H := hP
  have hD : va_D A [(h0, .inr (9, [.ref tb, .int 14, .int 0, .int (-1), .int 0, .int 0, .int 0])), (tb, .inl (cB, 600, .inl (upd (upd (upd (g0) (12 : Int32).toNatClampNeg (vp_nar .byte (((p0.toUInt32 >>> ((24 : Int32).toUInt32 &&& Int32.toUInt32 31)).toInt32).toInt8.toInt32))) (13 : Int32).toNatClampNeg (vp_nar .byte (((p0.toUInt32 >>> ((16 : Int32).toUInt32 &&& Int32.toUInt32 31)).toInt32).toInt8.toInt32))) (14 : Int32).toNatClampNeg (vp_nar .byte (((p0.toUInt32 >>> ((8 : Int32).toUInt32 &&& Int32.toUInt32 31)).toInt32).toInt8.toInt32)))))] := hD
  refine lv_aload_n hx hb dX9_append_30 rfl (lv_at hl 1 rfl) ?_
  refine lv_dup hx hb dX9_append_31 rfl ?_
  refine va_get (D := (dC, dI)) (ci := 9) (v := .int 14) (C := RX9) (T := TX9) (N := 7) hx hb hts i_c_X9_append_12_X9 hown hK hP 0 rfl rfl 1 (by decide) (hts (.fieldLink RX9 19 "OnePassport$Tape" "length" "I") (List.mem_of_getElem? (i := 1) rfl)) (fun _ h9 => h9) rfl dX9_append_32 ?_
  refine lv_iconst (v := 1) hx hb dX9_append_35 (by decide) ?_
  refine lv_iadd hx hb dX9_append_36 ?_
  refine wx_ti (y := 15) (by decide) ?_
  refine va_put (D := (dC, dI)) (ci := 9) (v := .int 15) (ty := .int) (C := RX9) (T := TX9) (N := 7) hx hb hts i_c_X9_append_12_X9 tyX9 tyX9_ok nmX9 hown hK hP hD hS 0 rfl rfl 1 (by decide) (hts (.fieldLink RX9 19 "OnePassport$Tape" "length" "I") (List.mem_of_getElem? (i := 1) rfl)) (fun _ h9 => h9) rfl (by decide +kernel) rfl rfl (Nat.le_of_ble_eq_true rfl) dX9_append_37 (fun H locs hP hD hS => ?_)
  have hP : va_P (dC, dI) vwCl [(h0, .inr (9, [.ref tb, .int 15, .int 0, .int (-1), .int 0, .int 0, .int 0])), (tb, .inl (cB, 600, .inl (upd (upd (upd (g0) (12 : Int32).toNatClampNeg (vp_nar .byte (((p0.toUInt32 >>> ((24 : Int32).toUInt32 &&& Int32.toUInt32 31)).toInt32).toInt8.toInt32))) (13 : Int32).toNatClampNeg (vp_nar .byte (((p0.toUInt32 >>> ((16 : Int32).toUInt32 &&& Int32.toUInt32 31)).toInt32).toInt8.toInt32))) (14 : Int32).toNatClampNeg (vp_nar .byte (((p0.toUInt32 >>> ((8 : Int32).toUInt32 &&& Int32.toUInt32 31)).toInt32).toInt8.toInt32)))))] H := hP
  have hD : va_D A [(h0, .inr (9, [.ref tb, .int 15, .int 0, .int (-1), .int 0, .int 0, .int 0])), (tb, .inl (cB, 600, .inl (upd (upd (upd (g0) (12 : Int32).toNatClampNeg (vp_nar .byte (((p0.toUInt32 >>> ((24 : Int32).toUInt32 &&& Int32.toUInt32 31)).toInt32).toInt8.toInt32))) (13 : Int32).toNatClampNeg (vp_nar .byte (((p0.toUInt32 >>> ((16 : Int32).toUInt32 &&& Int32.toUInt32 31)).toInt32).toInt8.toInt32))) (14 : Int32).toNatClampNeg (vp_nar .byte (((p0.toUInt32 >>> ((8 : Int32).toUInt32 &&& Int32.toUInt32 31)).toInt32).toInt8.toInt32)))))] := hD
  refine lv_iinc (v := 0) (lv' := [(2, .int 0), (0, .ref h0), (1, .int p0)]) hx hb dX9_append_40 hl (k := 0) rfl (by decide) (by decide) rfl (fun ls hl => ?_)
  refine lv_goto (tgt := 3) hx hb dX9_append_43 (by decide) ?_
  refine lv_iload_n hx hb dX9_append_3 rfl (lv_at hl 0 rfl) ?_
  refine lv_if_lt (tgt := 46) hx hb dX9_append_4 (by decide) (fun c_7 => absurd c_7 (by decide)) (fun c_7 => ?_)
  refine lv_aload_n hx hb dX9_append_7 rfl (lv_at hl 1 rfl) ?_
  refine va_get (D := (dC, dI)) (ci := 9) (v := .int 15) (C := RX9) (T := TX9) (N := 7) hx hb hts i_c_X9_append_12_X9 hown hK hP 0 rfl rfl 1 (by decide) (hts (.fieldLink RX9 19 "OnePassport$Tape" "length" "I") (List.mem_of_getElem? (i := 1) rfl)) (fun _ h9 => h9) rfl dX9_append_8 ?_
  refine lv_sipush (v := 600) hx hb dX9_append_11 (by decide) ?_
  refine lv_icmp_ge (tgt := 46) hx hb dX9_append_14 (by decide) (fun c_8 => absurd c_8 (by decide)) (fun c_8 => ?_)
  refine lv_aload_n hx hb dX9_append_17 rfl (lv_at hl 1 rfl) ?_
  refine va_get (D := (dC, dI)) (ci := 9) (v := .ref tb) (C := RX9) (T := TX9) (N := 7) hx hb hts i_c_X9_append_12_X9 hown hK hP 0 rfl rfl 0 (by decide) (hts (.fieldLink RX9 11 "OnePassport$Tape" "bytes" "[B") (List.mem_of_getElem? (i := 2) rfl)) (fun _ h9 => h9) rfl dX9_append_18 ?_
  refine lv_aload_n hx hb dX9_append_21 rfl (lv_at hl 1 rfl) ?_
  refine va_get (D := (dC, dI)) (ci := 9) (v := .int 15) (C := RX9) (T := TX9) (N := 7) hx hb hts i_c_X9_append_12_X9 hown hK hP 0 rfl rfl 1 (by decide) (hts (.fieldLink RX9 19 "OnePassport$Tape" "length" "I") (List.mem_of_getElem? (i := 1) rfl)) (fun _ h9 => h9) rfl dX9_append_22 ?_
  refine lv_iload_n hx hb dX9_append_25 rfl (lv_at hl 2 rfl) ?_
  refine lv_iload_n hx hb dX9_append_26 rfl (lv_at hl 0 rfl) ?_
  refine lv_iushr (v := (p0.toUInt32 >>> ((0 : Int32).toUInt32 &&& Int32.toUInt32 31)).toInt32) hx hb dX9_append_27 rfl ?_
  refine lv_i2b (v := ((p0.toUInt32 >>> ((0 : Int32).toUInt32 &&& Int32.toUInt32 31)).toInt32).toInt8.toInt32) hx hb dX9_append_28 rfl ?_
  refine va_bast hx hb hK hP hD hS 1 0 rfl rfl (i := 15) (x := ((p0.toUInt32 >>> ((0 : Int32).toUInt32 &&& Int32.toUInt32 31)).toInt32).toInt8.toInt32) (by unfold vp_in; decide) dX9_append_29 (fun H locs hP hD hS => ?_)
  have hP : va_P (dC, dI) vwCl [(h0, .inr (9, [.ref tb, .int 15, .int 0, .int (-1), .int 0, .int 0, .int 0])), (tb, .inl (cB, 600, .inl (upd (upd (upd (upd (g0) (12 : Int32).toNatClampNeg (vp_nar .byte (((p0.toUInt32 >>> ((24 : Int32).toUInt32 &&& Int32.toUInt32 31)).toInt32).toInt8.toInt32))) (13 : Int32).toNatClampNeg (vp_nar .byte (((p0.toUInt32 >>> ((16 : Int32).toUInt32 &&& Int32.toUInt32 31)).toInt32).toInt8.toInt32))) (14 : Int32).toNatClampNeg (vp_nar .byte (((p0.toUInt32 >>> ((8 : Int32).toUInt32 &&& Int32.toUInt32 31)).toInt32).toInt8.toInt32))) (15 : Int32).toNatClampNeg (vp_nar .byte (((p0.toUInt32 >>> ((0 : Int32).toUInt32 &&& Int32.toUInt32 31)).toInt32).toInt8.toInt32)))))] H := hP
  have hD : va_D A [(h0, .inr (9, [.ref tb, .int 15, .int 0, .int (-1), .int 0, .int 0, .int 0])), (tb, .inl (cB, 600, .inl (upd (upd (upd (upd (g0) (12 : Int32).toNatClampNeg (vp_nar .byte (((p0.toUInt32 >>> ((24 : Int32).toUInt32 &&& Int32.toUInt32 31)).toInt32).toInt8.toInt32))) (13 : Int32).toNatClampNeg (vp_nar .byte (((p0.toUInt32 >>> ((16 : Int32).toUInt32 &&& Int32.toUInt32 31)).toInt32).toInt8.toInt32))) (14 : Int32).toNatClampNeg (vp_nar .byte (((p0.toUInt32 >>> ((8 : Int32).toUInt32 &&& Int32.toUInt32 31)).toInt32).toInt8.toInt32))) (15 : Int32).toNatClampNeg (vp_nar .byte (((p0.toUInt32 >>> ((0 : Int32).toUInt32 &&& Int32.toUInt32 31)).toInt32).toInt8.toInt32)))))] := hD
  refine lv_aload_n hx hb dX9_append_30 rfl (lv_at hl 1 rfl) ?_
  refine lv_dup hx hb dX9_append_31 rfl ?_
  refine va_get (D := (dC, dI)) (ci := 9) (v := .int 15) (C := RX9) (T := TX9) (N := 7) hx hb hts i_c_X9_append_12_X9 hown hK hP 0 rfl rfl 1 (by decide) (hts (.fieldLink RX9 19 "OnePassport$Tape" "length" "I") (List.mem_of_getElem? (i := 1) rfl)) (fun _ h9 => h9) rfl dX9_append_32 ?_
  refine lv_iconst (v := 1) hx hb dX9_append_35 (by decide) ?_
  refine lv_iadd hx hb dX9_append_36 ?_
  refine wx_ti (y := 16) (by decide) ?_
  refine va_put (D := (dC, dI)) (ci := 9) (v := .int 16) (ty := .int) (C := RX9) (T := TX9) (N := 7) hx hb hts i_c_X9_append_12_X9 tyX9 tyX9_ok nmX9 hown hK hP hD hS 0 rfl rfl 1 (by decide) (hts (.fieldLink RX9 19 "OnePassport$Tape" "length" "I") (List.mem_of_getElem? (i := 1) rfl)) (fun _ h9 => h9) rfl (by decide +kernel) rfl rfl (Nat.le_of_ble_eq_true rfl) dX9_append_37 (fun H locs hP hD hS => ?_)
  have hP : va_P (dC, dI) vwCl [(h0, .inr (9, [.ref tb, .int 16, .int 0, .int (-1), .int 0, .int 0, .int 0])), (tb, .inl (cB, 600, .inl (upd (upd (upd (upd (g0) (12 : Int32).toNatClampNeg (vp_nar .byte (((p0.toUInt32 >>> ((24 : Int32).toUInt32 &&& Int32.toUInt32 31)).toInt32).toInt8.toInt32))) (13 : Int32).toNatClampNeg (vp_nar .byte (((p0.toUInt32 >>> ((16 : Int32).toUInt32 &&& Int32.toUInt32 31)).toInt32).toInt8.toInt32))) (14 : Int32).toNatClampNeg (vp_nar .byte (((p0.toUInt32 >>> ((8 : Int32).toUInt32 &&& Int32.toUInt32 31)).toInt32).toInt8.toInt32))) (15 : Int32).toNatClampNeg (vp_nar .byte (((p0.toUInt32 >>> ((0 : Int32).toUInt32 &&& Int32.toUInt32 31)).toInt32).toInt8.toInt32)))))] H := hP
  have hD : va_D A [(h0, .inr (9, [.ref tb, .int 16, .int 0, .int (-1), .int 0, .int 0, .int 0])), (tb, .inl (cB, 600, .inl (upd (upd (upd (upd (g0) (12 : Int32).toNatClampNeg (vp_nar .byte (((p0.toUInt32 >>> ((24 : Int32).toUInt32 &&& Int32.toUInt32 31)).toInt32).toInt8.toInt32))) (13 : Int32).toNatClampNeg (vp_nar .byte (((p0.toUInt32 >>> ((16 : Int32).toUInt32 &&& Int32.toUInt32 31)).toInt32).toInt8.toInt32))) (14 : Int32).toNatClampNeg (vp_nar .byte (((p0.toUInt32 >>> ((8 : Int32).toUInt32 &&& Int32.toUInt32 31)).toInt32).toInt8.toInt32))) (15 : Int32).toNatClampNeg (vp_nar .byte (((p0.toUInt32 >>> ((0 : Int32).toUInt32 &&& Int32.toUInt32 31)).toInt32).toInt8.toInt32)))))] := hD
  refine lv_iinc (v := (-8)) (lv' := [(2, .int (-8)), (0, .ref h0), (1, .int p0)]) hx hb dX9_append_40 hl (k := 0) rfl (by decide) (by decide) rfl (fun ls hl => ?_)
  refine lv_goto (tgt := 3) hx hb dX9_append_43 (by decide) ?_
  refine lv_iload_n hx hb dX9_append_3 rfl (lv_at hl 0 rfl) ?_
  refine lv_if_lt (tgt := 46) hx hb dX9_append_4 (by decide) (fun c_9 => ?_) (fun c_9 => absurd (by decide) c_9)
  have hP9 := hP.sub (ws' := [(h0, .inr (9, [.ref tb, .int 16, .int 0, .int (-1), .int 0, .int 0, .int 0])), (tb, .inl (cB, 600, .inl ((upd (upd (upd (upd (g0) (12 : Int32).toNatClampNeg (vp_nar .byte (((p0.toUInt32 >>> ((24 : Int32).toUInt32 &&& Int32.toUInt32 31)).toInt32).toInt8.toInt32))) (13 : Int32).toNatClampNeg (vp_nar .byte (((p0.toUInt32 >>> ((16 : Int32).toUInt32 &&& Int32.toUInt32 31)).toInt32).toInt8.toInt32))) (14 : Int32).toNatClampNeg (vp_nar .byte (((p0.toUInt32 >>> ((8 : Int32).toUInt32 &&& Int32.toUInt32 31)).toInt32).toInt8.toInt32))) (15 : Int32).toNatClampNeg (vp_nar .byte (((p0.toUInt32 >>> ((0 : Int32).toUInt32 &&& Int32.toUInt32 31)).toInt32).toInt8.toInt32))))))]) [0, 1] rfl
  have hD9 := hD.sub (ws' := [(h0, .inr (9, [.ref tb, .int 16, .int 0, .int (-1), .int 0, .int 0, .int 0])), (tb, .inl (cB, 600, .inl ((upd (upd (upd (upd (g0) (12 : Int32).toNatClampNeg (vp_nar .byte (((p0.toUInt32 >>> ((24 : Int32).toUInt32 &&& Int32.toUInt32 31)).toInt32).toInt8.toInt32))) (13 : Int32).toNatClampNeg (vp_nar .byte (((p0.toUInt32 >>> ((16 : Int32).toUInt32 &&& Int32.toUInt32 31)).toInt32).toInt8.toInt32))) (14 : Int32).toNatClampNeg (vp_nar .byte (((p0.toUInt32 >>> ((8 : Int32).toUInt32 &&& Int32.toUInt32 31)).toInt32).toInt8.toInt32))) (15 : Int32).toNatClampNeg (vp_nar .byte (((p0.toUInt32 >>> ((0 : Int32).toUInt32 &&& Int32.toUInt32 31)).toInt32).toInt8.toInt32))))))]) [0, 1] (by decide) rfl
  exact W.vret hx hb hr (fun t ht hW => ⟨⟨(), rfl, trivial, (upd (upd (upd (upd (g0) (12 : Int32).toNatClampNeg (vp_nar .byte (((p0.toUInt32 >>> ((24 : Int32).toUInt32 &&& Int32.toUInt32 31)).toInt32).toInt8.toInt32))) (13 : Int32).toNatClampNeg (vp_nar .byte (((p0.toUInt32 >>> ((16 : Int32).toUInt32 &&& Int32.toUInt32 31)).toInt32).toInt8.toInt32))) (14 : Int32).toNatClampNeg (vp_nar .byte (((p0.toUInt32 >>> ((8 : Int32).toUInt32 &&& Int32.toUInt32 31)).toInt32).toInt8.toInt32))) (15 : Int32).toNatClampNeg (vp_nar .byte (((p0.toUInt32 >>> ((0 : Int32).toUInt32 &&& Int32.toUInt32 31)).toInt32).toInt8.toInt32))), by rw [ht]; exact hP9, va_K.moved hW.alike hK, hD9⟩, hS.F ht⟩) hS.2.2 dX9_append_46


def w_c_X9_append_16 : List Cond := .code yX9_append cX9_append 3 none :: ([.fieldLink RX9 19 "OnePassport$Tape" "length" "I", .fieldLink RX9 11 "OnePassport$Tape" "bytes" "[B"] ++ wsX90)
theorem i_c_X9_append_16_X9 : ∀ w ∈ wsX90, w ∈ w_c_X9_append_16 := fun _ h => List.mem_cons_of_mem _ (List.mem_append_right _ h)
set_option maxHeartbeats 4000000 in
set_option maxRecDepth 100000 in
theorem c_X9_append_16 (l : Launch) (dC : Nat → ClassId) (dI : Nat → Nat → Nat) (cB : ClassId) (h0 : Nat) (tb : Nat) (p0 : Int32) (g0 : Nat → Int32) (sz : Nat) : Met l yX9_append w_c_X9_append_16 ({ frames := 0, cells := 0, slots := 0, locals := 0 }) (va_Pc [.ref h0, .int p0] (fun U => U.heap.size = sz ∧ va_P (dC, dI) vwCl [(h0, .inr (9, [.ref tb, .int 16, .int 0, .int (-1), .int 0, .int 0, .int 0])), (tb, .inl (cB, 600, .inl (g0)))] U.heap ∧ va_K (dC, dI) vwCl [(cB, .byte)] U ∧ va_D (fun _ => True) [(h0, .inr (9, [.ref tb, .int 16, .int 0, .int (-1), .int 0, .int 0, .int 0])), (tb, .inl (cB, 600, .inl (g0)))])) (va_Qv (fun _ : Unit => True) (fun (_ : Unit) (t : State) => ∃ (g1 : Nat → Int32), va_P (dC, dI) vwCl [(h0, .inr (9, [.ref tb, .int 20, .int 0, .int (-1), .int 0, .int 0, .int 0])), (tb, .inl (cB, 600, .inl (g1)))] t.heap ∧ va_K (dC, dI) vwCl [(cB, .byte)] t ∧ va_D (va_A [(h0, .inr (9, [.ref tb, .int 16, .int 0, .int (-1), .int 0, .int 0, .int 0])), (tb, .inl (cB, 600, .inl (g0)))] sz) [(h0, .inr (9, [.ref tb, .int 20, .int 0, .int (-1), .int 0, .int 0, .int 0])), (tb, .inl (cB, 600, .inl (g1)))]) (va_A [(h0, .inr (9, [.ref tb, .int 16, .int 0, .int (-1), .int 0, .int 0, .int 0])), (tb, .inl (cB, 600, .inl (g0)))] sz)) 0 0 (va_A [(h0, .inr (9, [.ref tb, .int 16, .int 0, .int (-1), .int 0, .int 0, .int 0])), (tb, .inl (cB, 600, .inl (g0)))] sz) := by
  refine Met.ofW (cc := cX9_append) (maxL := 3) (ret := none) (by decide) rfl ?_
  intro p e s m args below meth c s₁ B hml hv
  obtain ⟨rfl, hsz, hP, hK, hD0⟩ := hv
  have hx := B.exec
  have hb := B.bytes
  have hr := B.returns
  have hts := atoms_spec (ws := w_c_X9_append_16) B.pre
  have hown : s.vm.findClass RX9 = some m.cls := findClass_of_methodNamed B.named
  have hlocks := B.notSynchronized
  subst hsz
  have hD := hD0.self (sz := s.heap.size)
  generalize hAe : va_A [(h0, .inr (9, [.ref tb, .int 16, .int 0, .int (-1), .int 0, .int 0, .int 0])), (tb, .inl (cB, 600, .inl (g0)))] s.heap.size = A at hD ⊢
  have hA : ∀ q : Nat, s.heap.size ≤ q → A q := fun q h => by rw [← hAe]; exact Or.inr h
  have hS : va_S A s.heap s.heap [] := va_S.rf
  have hP : va_P (dC, dI) vwCl [(h0, .inr (9, [.ref tb, .int 16, .int 0, .int (-1), .int 0, .int 0, .int 0])), (tb, .inl (cB, 600, .inl (g0)))] s.heap := hP
  have hl := lv_entry ([.ref h0, .int p0]) (n := 3) (Nat.le_of_ble_eq_true rfl)
  rw [lg_entry_eq]
  generalize (lg_sl ([.ref h0, .int p0]) ++ List.replicate (3 - (lg_sl ([.ref h0, .int p0])).length) Slot.unset).toArray = ls at hl ⊢
  have hl : lv_has ls 3 [(0, .ref h0), (1, .int p0)] := hl
  refine lv_bipush (v := 24) hx hb dX9_append_0 (by decide) ?_
  refine lv_istore_n (lv' := [(2, .int 24), (0, .ref h0), (1, .int p0)]) hx hb dX9_append_2 rfl hl (by decide) rfl (fun ls hl => ?_)
  refine lv_iload_n hx hb dX9_append_3 rfl (lv_at hl 0 rfl) ?_
  refine lv_if_lt (tgt := 46) hx hb dX9_append_4 (by decide) (fun c_1 => absurd c_1 (by decide)) (fun c_1 => ?_)
  refine lv_aload_n hx hb dX9_append_7 rfl (lv_at hl 1 rfl) ?_
  refine va_get (D := (dC, dI)) (ci := 9) (v := .int 16) (C := RX9) (T := TX9) (N := 7) hx hb hts i_c_X9_append_16_X9 hown hK hP 0 rfl rfl 1 (by decide) (hts (.fieldLink RX9 19 "OnePassport$Tape" "length" "I") (List.mem_of_getElem? (i := 1) rfl)) (fun _ h9 => h9) rfl dX9_append_8 ?_
  refine lv_sipush (v := 600) hx hb dX9_append_11 (by decide) ?_
  refine lv_icmp_ge (tgt := 46) hx hb dX9_append_14 (by decide) (fun c_2 => absurd c_2 (by decide)) (fun c_2 => ?_)
  refine lv_aload_n hx hb dX9_append_17 rfl (lv_at hl 1 rfl) ?_
  refine va_get (D := (dC, dI)) (ci := 9) (v := .ref tb) (C := RX9) (T := TX9) (N := 7) hx hb hts i_c_X9_append_16_X9 hown hK hP 0 rfl rfl 0 (by decide) (hts (.fieldLink RX9 11 "OnePassport$Tape" "bytes" "[B") (List.mem_of_getElem? (i := 2) rfl)) (fun _ h9 => h9) rfl dX9_append_18 ?_
  refine lv_aload_n hx hb dX9_append_21 rfl (lv_at hl 1 rfl) ?_
  refine va_get (D := (dC, dI)) (ci := 9) (v := .int 16) (C := RX9) (T := TX9) (N := 7) hx hb hts i_c_X9_append_16_X9 hown hK hP 0 rfl rfl 1 (by decide) (hts (.fieldLink RX9 19 "OnePassport$Tape" "length" "I") (List.mem_of_getElem? (i := 1) rfl)) (fun _ h9 => h9) rfl dX9_append_22 ?_
  refine lv_iload_n hx hb dX9_append_25 rfl (lv_at hl 2 rfl) ?_
  refine lv_iload_n hx hb dX9_append_26 rfl (lv_at hl 0 rfl) ?_
  refine lv_iushr (v := (p0.toUInt32 >>> ((24 : Int32).toUInt32 &&& Int32.toUInt32 31)).toInt32) hx hb dX9_append_27 rfl ?_
  refine lv_i2b (v := ((p0.toUInt32 >>> ((24 : Int32).toUInt32 &&& Int32.toUInt32 31)).toInt32).toInt8.toInt32) hx hb dX9_append_28 rfl ?_
  refine va_bast hx hb hK hP hD hS 1 0 rfl rfl (i := 16) (x := ((p0.toUInt32 >>> ((24 : Int32).toUInt32 &&& Int32.toUInt32 31)).toInt32).toInt8.toInt32) (by unfold vp_in; decide) dX9_append_29 (fun H locs hP hD hS => ?_)
  have hP : va_P (dC, dI) vwCl [(h0, .inr (9, [.ref tb, .int 16, .int 0, .int (-1), .int 0, .int 0, .int 0])), (tb, .inl (cB, 600, .inl (upd (g0) (16 : Int32).toNatClampNeg (vp_nar .byte (((p0.toUInt32 >>> ((24 : Int32).toUInt32 &&& Int32.toUInt32 31)).toInt32).toInt8.toInt32)))))] H := hP
  have hD : va_D A [(h0, .inr (9, [.ref tb, .int 16, .int 0, .int (-1), .int 0, .int 0, .int 0])), (tb, .inl (cB, 600, .inl (upd (g0) (16 : Int32).toNatClampNeg (vp_nar .byte (((p0.toUInt32 >>> ((24 : Int32).toUInt32 &&& Int32.toUInt32 31)).toInt32).toInt8.toInt32)))))] := hD
  refine lv_aload_n hx hb dX9_append_30 rfl (lv_at hl 1 rfl) ?_
  refine lv_dup hx hb dX9_append_31 rfl ?_
  refine va_get (D := (dC, dI)) (ci := 9) (v := .int 16) (C := RX9) (T := TX9) (N := 7) hx hb hts i_c_X9_append_16_X9 hown hK hP 0 rfl rfl 1 (by decide) (hts (.fieldLink RX9 19 "OnePassport$Tape" "length" "I") (List.mem_of_getElem? (i := 1) rfl)) (fun _ h9 => h9) rfl dX9_append_32 ?_
  refine lv_iconst (v := 1) hx hb dX9_append_35 (by decide) ?_
  refine lv_iadd hx hb dX9_append_36 ?_
  refine wx_ti (y := 17) (by decide) ?_
  refine va_put (D := (dC, dI)) (ci := 9) (v := .int 17) (ty := .int) (C := RX9) (T := TX9) (N := 7) hx hb hts i_c_X9_append_16_X9 tyX9 tyX9_ok nmX9 hown hK hP hD hS 0 rfl rfl 1 (by decide) (hts (.fieldLink RX9 19 "OnePassport$Tape" "length" "I") (List.mem_of_getElem? (i := 1) rfl)) (fun _ h9 => h9) rfl (by decide +kernel) rfl rfl (Nat.le_of_ble_eq_true rfl) dX9_append_37 (fun H locs hP hD hS => ?_)
  have hP : va_P (dC, dI) vwCl [(h0, .inr (9, [.ref tb, .int 17, .int 0, .int (-1), .int 0, .int 0, .int 0])), (tb, .inl (cB, 600, .inl (upd (g0) (16 : Int32).toNatClampNeg (vp_nar .byte (((p0.toUInt32 >>> ((24 : Int32).toUInt32 &&& Int32.toUInt32 31)).toInt32).toInt8.toInt32)))))] H := hP
  have hD : va_D A [(h0, .inr (9, [.ref tb, .int 17, .int 0, .int (-1), .int 0, .int 0, .int 0])), (tb, .inl (cB, 600, .inl (upd (g0) (16 : Int32).toNatClampNeg (vp_nar .byte (((p0.toUInt32 >>> ((24 : Int32).toUInt32 &&& Int32.toUInt32 31)).toInt32).toInt8.toInt32)))))] := hD
  refine lv_iinc (v := 16) (lv' := [(2, .int 16), (0, .ref h0), (1, .int p0)]) hx hb dX9_append_40 hl (k := 0) rfl (by decide) (by decide) rfl (fun ls hl => ?_)
  refine lv_goto (tgt := 3) hx hb dX9_append_43 (by decide) ?_
  refine lv_iload_n hx hb dX9_append_3 rfl (lv_at hl 0 rfl) ?_
  refine lv_if_lt (tgt := 46) hx hb dX9_append_4 (by decide) (fun c_3 => absurd c_3 (by decide)) (fun c_3 => ?_)
  refine lv_aload_n hx hb dX9_append_7 rfl (lv_at hl 1 rfl) ?_
  refine va_get (D := (dC, dI)) (ci := 9) (v := .int 17) (C := RX9) (T := TX9) (N := 7) hx hb hts i_c_X9_append_16_X9 hown hK hP 0 rfl rfl 1 (by decide) (hts (.fieldLink RX9 19 "OnePassport$Tape" "length" "I") (List.mem_of_getElem? (i := 1) rfl)) (fun _ h9 => h9) rfl dX9_append_8 ?_
  refine lv_sipush (v := 600) hx hb dX9_append_11 (by decide) ?_
  refine lv_icmp_ge (tgt := 46) hx hb dX9_append_14 (by decide) (fun c_4 => absurd c_4 (by decide)) (fun c_4 => ?_)
  refine lv_aload_n hx hb dX9_append_17 rfl (lv_at hl 1 rfl) ?_
  refine va_get (D := (dC, dI)) (ci := 9) (v := .ref tb) (C := RX9) (T := TX9) (N := 7) hx hb hts i_c_X9_append_16_X9 hown hK hP 0 rfl rfl 0 (by decide) (hts (.fieldLink RX9 11 "OnePassport$Tape" "bytes" "[B") (List.mem_of_getElem? (i := 2) rfl)) (fun _ h9 => h9) rfl dX9_append_18 ?_
  refine lv_aload_n hx hb dX9_append_21 rfl (lv_at hl 1 rfl) ?_
  refine va_get (D := (dC, dI)) (ci := 9) (v := .int 17) (C := RX9) (T := TX9) (N := 7) hx hb hts i_c_X9_append_16_X9 hown hK hP 0 rfl rfl 1 (by decide) (hts (.fieldLink RX9 19 "OnePassport$Tape" "length" "I") (List.mem_of_getElem? (i := 1) rfl)) (fun _ h9 => h9) rfl dX9_append_22 ?_
  refine lv_iload_n hx hb dX9_append_25 rfl (lv_at hl 2 rfl) ?_
  refine lv_iload_n hx hb dX9_append_26 rfl (lv_at hl 0 rfl) ?_
  refine lv_iushr (v := (p0.toUInt32 >>> ((16 : Int32).toUInt32 &&& Int32.toUInt32 31)).toInt32) hx hb dX9_append_27 rfl ?_
  refine lv_i2b (v := ((p0.toUInt32 >>> ((16 : Int32).toUInt32 &&& Int32.toUInt32 31)).toInt32).toInt8.toInt32) hx hb dX9_append_28 rfl ?_
  refine va_bast hx hb hK hP hD hS 1 0 rfl rfl (i := 17) (x := ((p0.toUInt32 >>> ((16 : Int32).toUInt32 &&& Int32.toUInt32 31)).toInt32).toInt8.toInt32) (by unfold vp_in; decide) dX9_append_29 (fun H locs hP hD hS => ?_)
  have hP : va_P (dC, dI) vwCl [(h0, .inr (9, [.ref tb, .int 17, .int 0, .int (-1), .int 0, .int 0, .int 0])), (tb, .inl (cB, 600, .inl (upd (upd (g0) (16 : Int32).toNatClampNeg (vp_nar .byte (((p0.toUInt32 >>> ((24 : Int32).toUInt32 &&& Int32.toUInt32 31)).toInt32).toInt8.toInt32))) (17 : Int32).toNatClampNeg (vp_nar .byte (((p0.toUInt32 >>> ((16 : Int32).toUInt32 &&& Int32.toUInt32 31)).toInt32).toInt8.toInt32)))))] H := hP
  have hD : va_D A [(h0, .inr (9, [.ref tb, .int 17, .int 0, .int (-1), .int 0, .int 0, .int 0])), (tb, .inl (cB, 600, .inl (upd (upd (g0) (16 : Int32).toNatClampNeg (vp_nar .byte (((p0.toUInt32 >>> ((24 : Int32).toUInt32 &&& Int32.toUInt32 31)).toInt32).toInt8.toInt32))) (17 : Int32).toNatClampNeg (vp_nar .byte (((p0.toUInt32 >>> ((16 : Int32).toUInt32 &&& Int32.toUInt32 31)).toInt32).toInt8.toInt32)))))] := hD
  refine lv_aload_n hx hb dX9_append_30 rfl (lv_at hl 1 rfl) ?_
  refine lv_dup hx hb dX9_append_31 rfl ?_
  refine va_get (D := (dC, dI)) (ci := 9) (v := .int 17) (C := RX9) (T := TX9) (N := 7) hx hb hts i_c_X9_append_16_X9 hown hK hP 0 rfl rfl 1 (by decide) (hts (.fieldLink RX9 19 "OnePassport$Tape" "length" "I") (List.mem_of_getElem? (i := 1) rfl)) (fun _ h9 => h9) rfl dX9_append_32 ?_
  refine lv_iconst (v := 1) hx hb dX9_append_35 (by decide) ?_
  refine lv_iadd hx hb dX9_append_36 ?_
  refine wx_ti (y := 18) (by decide) ?_
  refine va_put (D := (dC, dI)) (ci := 9) (v := .int 18) (ty := .int) (C := RX9) (T := TX9) (N := 7) hx hb hts i_c_X9_append_16_X9 tyX9 tyX9_ok nmX9 hown hK hP hD hS 0 rfl rfl 1 (by decide) (hts (.fieldLink RX9 19 "OnePassport$Tape" "length" "I") (List.mem_of_getElem? (i := 1) rfl)) (fun _ h9 => h9) rfl (by decide +kernel) rfl rfl (Nat.le_of_ble_eq_true rfl) dX9_append_37 (fun H locs hP hD hS => ?_)
  have hP : va_P (dC, dI) vwCl [(h0, .inr (9, [.ref tb, .int 18, .int 0, .int (-1), .int 0, .int 0, .int 0])), (tb, .inl (cB, 600, .inl (upd (upd (g0) (16 : Int32).toNatClampNeg (vp_nar .byte (((p0.toUInt32 >>> ((24 : Int32).toUInt32 &&& Int32.toUInt32 31)).toInt32).toInt8.toInt32))) (17 : Int32).toNatClampNeg (vp_nar .byte (((p0.toUInt32 >>> ((16 : Int32).toUInt32 &&& Int32.toUInt32 31)).toInt32).toInt8.toInt32)))))] H := hP
  have hD : va_D A [(h0, .inr (9, [.ref tb, .int 18, .int 0, .int (-1), .int 0, .int 0, .int 0])), (tb, .inl (cB, 600, .inl (upd (upd (g0) (16 : Int32).toNatClampNeg (vp_nar .byte (((p0.toUInt32 >>> ((24 : Int32).toUInt32 &&& Int32.toUInt32 31)).toInt32).toInt8.toInt32))) (17 : Int32).toNatClampNeg (vp_nar .byte (((p0.toUInt32 >>> ((16 : Int32).toUInt32 &&& Int32.toUInt32 31)).toInt32).toInt8.toInt32)))))] := hD
  refine lv_iinc (v := 8) (lv' := [(2, .int 8), (0, .ref h0), (1, .int p0)]) hx hb dX9_append_40 hl (k := 0) rfl (by decide) (by decide) rfl (fun ls hl => ?_)
  refine lv_goto (tgt := 3) hx hb dX9_append_43 (by decide) ?_
  refine lv_iload_n hx hb dX9_append_3 rfl (lv_at hl 0 rfl) ?_
  refine lv_if_lt (tgt := 46) hx hb dX9_append_4 (by decide) (fun c_5 => absurd c_5 (by decide)) (fun c_5 => ?_)
  refine lv_aload_n hx hb dX9_append_7 rfl (lv_at hl 1 rfl) ?_
  refine va_get (D := (dC, dI)) (ci := 9) (v := .int 18) (C := RX9) (T := TX9) (N := 7) hx hb hts i_c_X9_append_16_X9 hown hK hP 0 rfl rfl 1 (by decide) (hts (.fieldLink RX9 19 "OnePassport$Tape" "length" "I") (List.mem_of_getElem? (i := 1) rfl)) (fun _ h9 => h9) rfl dX9_append_8 ?_
  refine lv_sipush (v := 600) hx hb dX9_append_11 (by decide) ?_
  refine lv_icmp_ge (tgt := 46) hx hb dX9_append_14 (by decide) (fun c_6 => absurd c_6 (by decide)) (fun c_6 => ?_)
  refine lv_aload_n hx hb dX9_append_17 rfl (lv_at hl 1 rfl) ?_
  refine va_get (D := (dC, dI)) (ci := 9) (v := .ref tb) (C := RX9) (T := TX9) (N := 7) hx hb hts i_c_X9_append_16_X9 hown hK hP 0 rfl rfl 0 (by decide) (hts (.fieldLink RX9 11 "OnePassport$Tape" "bytes" "[B") (List.mem_of_getElem? (i := 2) rfl)) (fun _ h9 => h9) rfl dX9_append_18 ?_
  refine lv_aload_n hx hb dX9_append_21 rfl (lv_at hl 1 rfl) ?_
  refine va_get (D := (dC, dI)) (ci := 9) (v := .int 18) (C := RX9) (T := TX9) (N := 7) hx hb hts i_c_X9_append_16_X9 hown hK hP 0 rfl rfl 1 (by decide) (hts (.fieldLink RX9 19 "OnePassport$Tape" "length" "I") (List.mem_of_getElem? (i := 1) rfl)) (fun _ h9 => h9) rfl dX9_append_22 ?_
  refine lv_iload_n hx hb dX9_append_25 rfl (lv_at hl 2 rfl) ?_
  refine lv_iload_n hx hb dX9_append_26 rfl (lv_at hl 0 rfl) ?_
  refine lv_iushr (v := (p0.toUInt32 >>> ((8 : Int32).toUInt32 &&& Int32.toUInt32 31)).toInt32) hx hb dX9_append_27 rfl ?_
  refine lv_i2b (v := ((p0.toUInt32 >>> ((8 : Int32).toUInt32 &&& Int32.toUInt32 31)).toInt32).toInt8.toInt32) hx hb dX9_append_28 rfl ?_
  refine va_bast hx hb hK hP hD hS 1 0 rfl rfl (i := 18) (x := ((p0.toUInt32 >>> ((8 : Int32).toUInt32 &&& Int32.toUInt32 31)).toInt32).toInt8.toInt32) (by unfold vp_in; decide) dX9_append_29 (fun H locs hP hD hS => ?_)
  have hP : va_P (dC, dI) vwCl [(h0, .inr (9, [.ref tb, .int 18, .int 0, .int (-1), .int 0, .int 0, .int 0])), (tb, .inl (cB, 600, .inl (upd (upd (upd (g0) (16 : Int32).toNatClampNeg (vp_nar .byte (((p0.toUInt32 >>> ((24 : Int32).toUInt32 &&& Int32.toUInt32 31)).toInt32).toInt8.toInt32))) (17 : Int32).toNatClampNeg (vp_nar .byte (((p0.toUInt32 >>> ((16 : Int32).toUInt32 &&& Int32.toUInt32 31)).toInt32).toInt8.toInt32))) (18 : Int32).toNatClampNeg (vp_nar .byte (((p0.toUInt32 >>> ((8 : Int32).toUInt32 &&& Int32.toUInt32 31)).toInt32).toInt8.toInt32)))))] H := hP
  have hD : va_D A [(h0, .inr (9, [.ref tb, .int 18, .int 0, .int (-1), .int 0, .int 0, .int 0])), (tb, .inl (cB, 600, .inl (upd (upd (upd (g0) (16 : Int32).toNatClampNeg (vp_nar .byte (((p0.toUInt32 >>> ((24 : Int32).toUInt32 &&& Int32.toUInt32 31)).toInt32).toInt8.toInt32))) (17 : Int32).toNatClampNeg (vp_nar .byte (((p0.toUInt32 >>> ((16 : Int32).toUInt32 &&& Int32.toUInt32 31)).toInt32).toInt8.toInt32))) (18 : Int32).toNatClampNeg (vp_nar .byte (((p0.toUInt32 >>> ((8 : Int32).toUInt32 &&& Int32.toUInt32 31)).toInt32).toInt8.toInt32)))))] := hD
  refine lv_aload_n hx hb dX9_append_30 rfl (lv_at hl 1 rfl) ?_
  refine lv_dup hx hb dX9_append_31 rfl ?_
  refine va_get (D := (dC, dI)) (ci := 9) (v := .int 18) (C := RX9) (T := TX9) (N := 7) hx hb hts i_c_X9_append_16_X9 hown hK hP 0 rfl rfl 1 (by decide) (hts (.fieldLink RX9 19 "OnePassport$Tape" "length" "I") (List.mem_of_getElem? (i := 1) rfl)) (fun _ h9 => h9) rfl dX9_append_32 ?_
  refine lv_iconst (v := 1) hx hb dX9_append_35 (by decide) ?_
  refine lv_iadd hx hb dX9_append_36 ?_
  refine wx_ti (y := 19) (by decide) ?_
  refine va_put (D := (dC, dI)) (ci := 9) (v := .int 19) (ty := .int) (C := RX9) (T := TX9) (N := 7) hx hb hts i_c_X9_append_16_X9 tyX9 tyX9_ok nmX9 hown hK hP hD hS 0 rfl rfl 1 (by decide) (hts (.fieldLink RX9 19 "OnePassport$Tape" "length" "I") (List.mem_of_getElem? (i := 1) rfl)) (fun _ h9 => h9) rfl (by decide +kernel) rfl rfl (Nat.le_of_ble_eq_true rfl) dX9_append_37 (fun H locs hP hD hS => ?_)
  have hP : va_P (dC, dI) vwCl [(h0, .inr (9, [.ref tb, .int 19, .int 0, .int (-1), .int 0, .int 0, .int 0])), (tb, .inl (cB, 600, .inl (upd (upd (upd (g0) (16 : Int32).toNatClampNeg (vp_nar .byte (((p0.toUInt32 >>> ((24 : Int32).toUInt32 &&& Int32.toUInt32 31)).toInt32).toInt8.toInt32))) (17 : Int32).toNatClampNeg (vp_nar .byte (((p0.toUInt32 >>> ((16 : Int32).toUInt32 &&& Int32.toUInt32 31)).toInt32).toInt8.toInt32))) (18 : Int32).toNatClampNeg (vp_nar .byte (((p0.toUInt32 >>> ((8 : Int32).toUInt32 &&& Int32.toUInt32 31)).toInt32).toInt8.toInt32)))))] H := hP
  have hD : va_D A [(h0, .inr (9, [.ref tb, .int 19, .int 0, .int (-1), .int 0, .int 0, .int 0])), (tb, .inl (cB, 600, .inl (upd (upd (upd (g0) (16 : Int32).toNatClampNeg (vp_nar .byte (((p0.toUInt32 >>> ((24 : Int32).toUInt32 &&& Int32.toUInt32 31)).toInt32).toInt8.toInt32))) (17 : Int32).toNatClampNeg (vp_nar .byte (((p0.toUInt32 >>> ((16 : Int32).toUInt32 &&& Int32.toUInt32 31)).toInt32).toInt8.toInt32))) (18 : Int32).toNatClampNeg (vp_nar .byte (((p0.toUInt32 >>> ((8 : Int32).toUInt32 &&& Int32.toUInt32 31)).toInt32).toInt8.toInt32)))))] := hD
  refine lv_iinc (v := 0) (lv' := [(2, .int 0), (0, .ref h0), (1, .int p0)]) hx hb dX9_append_40 hl (k := 0) rfl (by decide) (by decide) rfl (fun ls hl => ?_)
  refine lv_goto (tgt := 3) hx hb dX9_append_43 (by decide) ?_
  refine lv_iload_n hx hb dX9_append_3 rfl (lv_at hl 0 rfl) ?_
  refine lv_if_lt (tgt := 46) hx hb dX9_append_4 (by decide) (fun c_7 => absurd c_7 (by decide)) (fun c_7 => ?_)
  refine lv_aload_n hx hb dX9_append_7 rfl (lv_at hl 1 rfl) ?_
  refine va_get (D := (dC, dI)) (ci := 9) (v := .int 19) (C := RX9) (T := TX9) (N := 7) hx hb hts i_c_X9_append_16_X9 hown hK hP 0 rfl rfl 1 (by decide) (hts (.fieldLink RX9 19 "OnePassport$Tape" "length" "I") (List.mem_of_getElem? (i := 1) rfl)) (fun _ h9 => h9) rfl dX9_append_8 ?_
  refine lv_sipush (v := 600) hx hb dX9_append_11 (by decide) ?_
  refine lv_icmp_ge (tgt := 46) hx hb dX9_append_14 (by decide) (fun c_8 => absurd c_8 (by decide)) (fun c_8 => ?_)
  refine lv_aload_n hx hb dX9_append_17 rfl (lv_at hl 1 rfl) ?_
  refine va_get (D := (dC, dI)) (ci := 9) (v := .ref tb) (C := RX9) (T := TX9) (N := 7) hx hb hts i_c_X9_append_16_X9 hown hK hP 0 rfl rfl 0 (by decide) (hts (.fieldLink RX9 11 "OnePassport$Tape" "bytes" "[B") (List.mem_of_getElem? (i := 2) rfl)) (fun _ h9 => h9) rfl dX9_append_18 ?_
  refine lv_aload_n hx hb dX9_append_21 rfl (lv_at hl 1 rfl) ?_
  refine va_get (D := (dC, dI)) (ci := 9) (v := .int 19) (C := RX9) (T := TX9) (N := 7) hx hb hts i_c_X9_append_16_X9 hown hK hP 0 rfl rfl 1 (by decide) (hts (.fieldLink RX9 19 "OnePassport$Tape" "length" "I") (List.mem_of_getElem? (i := 1) rfl)) (fun _ h9 => h9) rfl dX9_append_22 ?_
  refine lv_iload_n hx hb dX9_append_25 rfl (lv_at hl 2 rfl) ?_
  refine lv_iload_n hx hb dX9_append_26 rfl (lv_at hl 0 rfl) ?_
  refine lv_iushr (v := (p0.toUInt32 >>> ((0 : Int32).toUInt32 &&& Int32.toUInt32 31)).toInt32) hx hb dX9_append_27 rfl ?_
  refine lv_i2b (v := ((p0.toUInt32 >>> ((0 : Int32).toUInt32 &&& Int32.toUInt32 31)).toInt32).toInt8.toInt32) hx hb dX9_append_28 rfl ?_
  refine va_bast hx hb hK hP hD hS 1 0 rfl rfl (i := 19) (x := ((p0.toUInt32 >>> ((0 : Int32).toUInt32 &&& Int32.toUInt32 31)).toInt32).toInt8.toInt32) (by unfold vp_in; decide) dX9_append_29 (fun H locs hP hD hS => ?_)
  have hP : va_P (dC, dI) vwCl [(h0, .inr (9, [.ref tb, .int 19, .int 0, .int (-1), .int 0, .int 0, .int 0])), (tb, .inl (cB, 600, .inl (upd (upd (upd (upd (g0) (16 : Int32).toNatClampNeg (vp_nar .byte (((p0.toUInt32 >>> ((24 : Int32).toUInt32 &&& Int32.toUInt32 31)).toInt32).toInt8.toInt32))) (17 : Int32).toNatClampNeg (vp_nar .byte (((p0.toUInt32 >>> ((16 : Int32).toUInt32 &&& Int32.toUInt32 31)).toInt32).toInt8.toInt32))) (18 : Int32).toNatClampNeg (vp_nar .byte (((p0.toUInt32 >>> ((8 : Int32).toUInt32 &&& Int32.toUInt32 31)).toInt32).toInt8.toInt32))) (19 : Int32).toNatClampNeg (vp_nar .byte (((p0.toUInt32 >>> ((0 : Int32).toUInt32 &&& Int32.toUInt32 31)).toInt32).toInt8.toInt32)))))] H := hP
  have hD : va_D A [(h0, .inr (9, [.ref tb, .int 19, .int 0, .int (-1), .int 0, .int 0, .int 0])), (tb, .inl (cB, 600, .inl (upd (upd (upd (upd (g0) (16 : Int32).toNatClampNeg (vp_nar .byte (((p0.toUInt32 >>> ((24 : Int32).toUInt32 &&& Int32.toUInt32 31)).toInt32).toInt8.toInt32))) (17 : Int32).toNatClampNeg (vp_nar .byte (((p0.toUInt32 >>> ((16 : Int32).toUInt32 &&& Int32.toUInt32 31)).toInt32).toInt8.toInt32))) (18 : Int32).toNatClampNeg (vp_nar .byte (((p0.toUInt32 >>> ((8 : Int32).toUInt32 &&& Int32.toUInt32 31)).toInt32).toInt8.toInt32))) (19 : Int32).toNatClampNeg (vp_nar .byte (((p0.toUInt32 >>> ((0 : Int32).toUInt32 &&& Int32.toUInt32 31)).toInt32).toInt8.toInt32)))))] := hD
  refine lv_aload_n hx hb dX9_append_30 rfl (lv_at hl 1 rfl) ?_
  refine lv_dup hx hb dX9_append_31 rfl ?_
  refine va_get (D := (dC, dI)) (ci := 9) (v := .int 19) (C := RX9) (T := TX9) (N := 7) hx hb hts i_c_X9_append_16_X9 hown hK hP 0 rfl rfl 1 (by decide) (hts (.fieldLink RX9 19 "OnePassport$Tape" "length" "I") (List.mem_of_getElem? (i := 1) rfl)) (fun _ h9 => h9) rfl dX9_append_32 ?_
  refine lv_iconst (v := 1) hx hb dX9_append_35 (by decide) ?_
  refine lv_iadd hx hb dX9_append_36 ?_
  refine wx_ti (y := 20) (by decide) ?_
  refine va_put (D := (dC, dI)) (ci := 9) (v := .int 20) (ty := .int) (C := RX9) (T := TX9) (N := 7) hx hb hts i_c_X9_append_16_X9 tyX9 tyX9_ok nmX9 hown hK hP hD hS 0 rfl rfl 1 (by decide) (hts (.fieldLink RX9 19 "OnePassport$Tape" "length" "I") (List.mem_of_getElem? (i := 1) rfl)) (fun _ h9 => h9) rfl (by decide +kernel) rfl rfl (Nat.le_of_ble_eq_true rfl) dX9_append_37 (fun H locs hP hD hS => ?_)
  have hP : va_P (dC, dI) vwCl [(h0, .inr (9, [.ref tb, .int 20, .int 0, .int (-1), .int 0, .int 0, .int 0])), (tb, .inl (cB, 600, .inl (upd (upd (upd (upd (g0) (16 : Int32).toNatClampNeg (vp_nar .byte (((p0.toUInt32 >>> ((24 : Int32).toUInt32 &&& Int32.toUInt32 31)).toInt32).toInt8.toInt32))) (17 : Int32).toNatClampNeg (vp_nar .byte (((p0.toUInt32 >>> ((16 : Int32).toUInt32 &&& Int32.toUInt32 31)).toInt32).toInt8.toInt32))) (18 : Int32).toNatClampNeg (vp_nar .byte (((p0.toUInt32 >>> ((8 : Int32).toUInt32 &&& Int32.toUInt32 31)).toInt32).toInt8.toInt32))) (19 : Int32).toNatClampNeg (vp_nar .byte (((p0.toUInt32 >>> ((0 : Int32).toUInt32 &&& Int32.toUInt32 31)).toInt32).toInt8.toInt32)))))] H := hP
  have hD : va_D A [(h0, .inr (9, [.ref tb, .int 20, .int 0, .int (-1), .int 0, .int 0, .int 0])), (tb, .inl (cB, 600, .inl (upd (upd (upd (upd (g0) (16 : Int32).toNatClampNeg (vp_nar .byte (((p0.toUInt32 >>> ((24 : Int32).toUInt32 &&& Int32.toUInt32 31)).toInt32).toInt8.toInt32))) (17 : Int32).toNatClampNeg (vp_nar .byte (((p0.toUInt32 >>> ((16 : Int32).toUInt32 &&& Int32.toUInt32 31)).toInt32).toInt8.toInt32))) (18 : Int32).toNatClampNeg (vp_nar .byte (((p0.toUInt32 >>> ((8 : Int32).toUInt32 &&& Int32.toUInt32 31)).toInt32).toInt8.toInt32))) (19 : Int32).toNatClampNeg (vp_nar .byte (((p0.toUInt32 >>> ((0 : Int32).toUInt32 &&& Int32.toUInt32 31)).toInt32).toInt8.toInt32)))))] := hD
  refine lv_iinc (v := (-8)) (lv' := [(2, .int (-8)), (0, .ref h0), (1, .int p0)]) hx hb dX9_append_40 hl (k := 0) rfl (by decide) (by decide) rfl (fun ls hl => ?_)
  refine lv_goto (tgt := 3) hx hb dX9_append_43 (by decide) ?_
  refine lv_iload_n hx hb dX9_append_3 rfl (lv_at hl 0 rfl) ?_
  refine lv_if_lt (tgt := 46) hx hb dX9_append_4 (by decide) (fun c_9 => ?_) (fun c_9 => absurd (by decide) c_9)
  have hP9 := hP.sub (ws' := [(h0, .inr (9, [.ref tb, .int 20, .int 0, .int (-1), .int 0, .int 0, .int 0])), (tb, .inl (cB, 600, .inl ((upd (upd (upd (upd (g0) (16 : Int32).toNatClampNeg (vp_nar .byte (((p0.toUInt32 >>> ((24 : Int32).toUInt32 &&& Int32.toUInt32 31)).toInt32).toInt8.toInt32))) (17 : Int32).toNatClampNeg (vp_nar .byte (((p0.toUInt32 >>> ((16 : Int32).toUInt32 &&& Int32.toUInt32 31)).toInt32).toInt8.toInt32))) (18 : Int32).toNatClampNeg (vp_nar .byte (((p0.toUInt32 >>> ((8 : Int32).toUInt32 &&& Int32.toUInt32 31)).toInt32).toInt8.toInt32))) (19 : Int32).toNatClampNeg (vp_nar .byte (((p0.toUInt32 >>> ((0 : Int32).toUInt32 &&& Int32.toUInt32 31)).toInt32).toInt8.toInt32))))))]) [0, 1] rfl
  have hD9 := hD.sub (ws' := [(h0, .inr (9, [.ref tb, .int 20, .int 0, .int (-1), .int 0, .int 0, .int 0])), (tb, .inl (cB, 600, .inl ((upd (upd (upd (upd (g0) (16 : Int32).toNatClampNeg (vp_nar .byte (((p0.toUInt32 >>> ((24 : Int32).toUInt32 &&& Int32.toUInt32 31)).toInt32).toInt8.toInt32))) (17 : Int32).toNatClampNeg (vp_nar .byte (((p0.toUInt32 >>> ((16 : Int32).toUInt32 &&& Int32.toUInt32 31)).toInt32).toInt8.toInt32))) (18 : Int32).toNatClampNeg (vp_nar .byte (((p0.toUInt32 >>> ((8 : Int32).toUInt32 &&& Int32.toUInt32 31)).toInt32).toInt8.toInt32))) (19 : Int32).toNatClampNeg (vp_nar .byte (((p0.toUInt32 >>> ((0 : Int32).toUInt32 &&& Int32.toUInt32 31)).toInt32).toInt8.toInt32))))))]) [0, 1] (by decide) rfl
  exact W.vret hx hb hr (fun t ht hW => ⟨⟨(), rfl, trivial, (upd (upd (upd (upd (g0) (16 : Int32).toNatClampNeg (vp_nar .byte (((p0.toUInt32 >>> ((24 : Int32).toUInt32 &&& Int32.toUInt32 31)).toInt32).toInt8.toInt32))) (17 : Int32).toNatClampNeg (vp_nar .byte (((p0.toUInt32 >>> ((16 : Int32).toUInt32 &&& Int32.toUInt32 31)).toInt32).toInt8.toInt32))) (18 : Int32).toNatClampNeg (vp_nar .byte (((p0.toUInt32 >>> ((8 : Int32).toUInt32 &&& Int32.toUInt32 31)).toInt32).toInt8.toInt32))) (19 : Int32).toNatClampNeg (vp_nar .byte (((p0.toUInt32 >>> ((0 : Int32).toUInt32 &&& Int32.toUInt32 31)).toInt32).toInt8.toInt32))), by rw [ht]; exact hP9, va_K.moved hW.alike hK, hD9⟩, hS.F ht⟩) hS.2.2 dX9_append_46

theorem dX11_feed_0 : decode cX11_feed 0 = .ok (.aload_n 0, 1) := by decide +kernel
theorem dX11_feed_1 : decode cX11_feed 1 = .ok (.getfield 10, 3) := by decide +kernel
theorem dX11_feed_4 : decode cX11_feed 4 = .ok (.getfield 71, 3) := by decide +kernel
theorem dX11_feed_7 : decode cX11_feed 7 = .ok (.bipush 20, 2) := by decide +kernel
theorem dX11_feed_9 : decode cX11_feed 9 = .ok (.iadd, 1) := by decide +kernel
theorem dX11_feed_10 : decode cX11_feed 10 = .ok (.sipush 600, 3) := by decide +kernel
theorem dX11_feed_13 : decode cX11_feed 13 = .ok (.if_icmp .le 5, 3) := by decide +kernel
theorem dX11_feed_18 : decode cX11_feed 18 = .ok (.aload_n 0, 1) := by decide +kernel
theorem dX11_feed_19 : decode cX11_feed 19 = .ok (.getfield 10, 3) := by decide +kernel
theorem dX11_feed_22 : decode cX11_feed 22 = .ok (.iload_n 1, 1) := by decide +kernel
theorem dX11_feed_23 : decode cX11_feed 23 = .ok (.invokevirtual 75, 3) := by decide +kernel
theorem dX11_feed_26 : decode cX11_feed 26 = .ok (.aload_n 0, 1) := by decide +kernel
theorem dX11_feed_27 : decode cX11_feed 27 = .ok (.getfield 10, 3) := by decide +kernel
theorem dX11_feed_30 : decode cX11_feed 30 = .ok (.iload_n 2, 1) := by decide +kernel
theorem dX11_feed_31 : decode cX11_feed 31 = .ok (.invokevirtual 75, 3) := by decide +kernel
theorem dX11_feed_34 : decode cX11_feed 34 = .ok (.aload_n 0, 1) := by decide +kernel
theorem dX11_feed_35 : decode cX11_feed 35 = .ok (.getfield 10, 3) := by decide +kernel
theorem dX11_feed_38 : decode cX11_feed 38 = .ok (.iload_n 3, 1) := by decide +kernel
theorem dX11_feed_39 : decode cX11_feed 39 = .ok (.invokevirtual 75, 3) := by decide +kernel
theorem dX11_feed_42 : decode cX11_feed 42 = .ok (.aload_n 0, 1) := by decide +kernel
theorem dX11_feed_43 : decode cX11_feed 43 = .ok (.getfield 10, 3) := by decide +kernel
theorem dX11_feed_46 : decode cX11_feed 46 = .ok (.iload 4, 2) := by decide +kernel
theorem dX11_feed_48 : decode cX11_feed 48 = .ok (.invokevirtual 75, 3) := by decide +kernel
theorem dX11_feed_51 : decode cX11_feed 51 = .ok (.aload_n 0, 1) := by decide +kernel
theorem dX11_feed_52 : decode cX11_feed 52 = .ok (.getfield 10, 3) := by decide +kernel
theorem dX11_feed_55 : decode cX11_feed 55 = .ok (.iload 5, 2) := by decide +kernel
theorem dX11_feed_57 : decode cX11_feed 57 = .ok (.invokevirtual 75, 3) := by decide +kernel
theorem dX11_feed_60 : decode cX11_feed 60 = .ok (.aload_n 0, 1) := by decide +kernel
theorem dX11_feed_61 : decode cX11_feed 61 = .ok (.getfield 10, 3) := by decide +kernel
theorem dX11_feed_64 : decode cX11_feed 64 = .ok (.getfield 71, 3) := by decide +kernel
theorem dX11_feed_67 : decode cX11_feed 67 = .ok (.ireturn, 1) := by decide +kernel
def w_c_X11_feed_0 : List Cond := .code yX11_feed cX11_feed 6 (some .int) :: ([.fieldLink RX11 10 "OnePassport" "tape" "LOnePassport$Tape;", .fieldLink RX11 71 "OnePassport$Tape" "length" "I", .methodLink RX11 75 yX9_append, .instanceMethod yX9_append, .selects RX9 yX9_append yX9_append, .initialized RX9, .code yX9_append cX9_append 3 none, .fieldLink RX9 19 "OnePassport$Tape" "length" "I", .fieldLink RX9 11 "OnePassport$Tape" "bytes" "[B"] ++ wsX110 ++ wsX90)
theorem i_c_X11_feed_0_X11 : ∀ w ∈ wsX110, w ∈ w_c_X11_feed_0 := fun _ h => List.mem_cons_of_mem _ (List.mem_append_left _ (List.mem_append_right _ h))
theorem i_c_X11_feed_0_X9 : ∀ w ∈ wsX90, w ∈ w_c_X11_feed_0 := fun _ h => List.mem_cons_of_mem _ (List.mem_append_right _ h)
set_option maxRecDepth 100000 in
theorem g_c_X11_feed_0_0 : GoodIn w_c_X11_feed_0 (wsV RX11 75 RX9 yX9_append w_c_X9_append_0) := goodIn_of _ (by decide +kernel)
set_option maxRecDepth 100000 in
theorem g_c_X11_feed_0_1 : GoodIn w_c_X11_feed_0 (wsV RX11 75 RX9 yX9_append w_c_X9_append_4) := goodIn_of _ (by decide +kernel)
set_option maxRecDepth 100000 in
theorem g_c_X11_feed_0_2 : GoodIn w_c_X11_feed_0 (wsV RX11 75 RX9 yX9_append w_c_X9_append_8) := goodIn_of _ (by decide +kernel)
set_option maxRecDepth 100000 in
theorem g_c_X11_feed_0_3 : GoodIn w_c_X11_feed_0 (wsV RX11 75 RX9 yX9_append w_c_X9_append_12) := goodIn_of _ (by decide +kernel)
set_option maxRecDepth 100000 in
theorem g_c_X11_feed_0_4 : GoodIn w_c_X11_feed_0 (wsV RX11 75 RX9 yX9_append w_c_X9_append_16) := goodIn_of _ (by decide +kernel)
set_option maxHeartbeats 4000000 in
set_option maxRecDepth 100000 in
theorem c_X11_feed_0 (l : Launch) (dC : Nat → ClassId) (dI : Nat → Nat → Nat) (cB : ClassId) (h0 : Nat) (x0 : Nat) (x1 : Nat) (x2 : Nat) (x3 : Nat) (x4 : Nat) (x5 : Nat) (x6 : Nat) (x7 : Nat) (x8 : Nat) (x9 : Nat) (x10 : Nat) (tb : Nat) (p0 : Int32) (p1 : Int32) (p2 : Int32) (p3 : Int32) (p4 : Int32) (sz : Nat) : Met l yX11_feed w_c_X11_feed_0 ({ frames := 1, cells := 0, slots := 0, locals := 22 }) (va_Pc [.ref h0, .int p0, .int p1, .int p2, .int p3, .int p4] (fun U => U.heap.size = sz ∧ va_P (dC, dI) vwCl [(h0, .inr (11, [.ref x0, .ref x1, .ref x2, .ref x3, .ref x4, .ref x5, .ref x6, .ref x7, .ref x8, .ref x9, .ref x10])), (x0, .inr (9, [.ref tb, .int 0, .int 0, .int (-1), .int 0, .int 0, .int 0])), (tb, .inl (cB, 600, .inl (fun _ => 0)))] U.heap ∧ va_K (dC, dI) vwCl [(cB, .byte)] U ∧ va_D (fun _ => True) [(h0, .inr (11, [.ref x0, .ref x1, .ref x2, .ref x3, .ref x4, .ref x5, .ref x6, .ref x7, .ref x8, .ref x9, .ref x10])), (x0, .inr (9, [.ref tb, .int 0, .int 0, .int (-1), .int 0, .int 0, .int 0])), (tb, .inl (cB, 600, .inl (fun _ => 0)))])) (va_Qi (fun (r : Int32) (_ : Unit) => r = 20) (fun (_ : Unit) (t : State) => ∃ (g1 : Nat → Int32), va_P (dC, dI) vwCl [(h0, .inr (11, [.ref x0, .ref x1, .ref x2, .ref x3, .ref x4, .ref x5, .ref x6, .ref x7, .ref x8, .ref x9, .ref x10])), (x0, .inr (9, [.ref tb, .int 20, .int 0, .int (-1), .int 0, .int 0, .int 0])), (tb, .inl (cB, 600, .inl (g1)))] t.heap ∧ va_K (dC, dI) vwCl [(cB, .byte)] t ∧ va_D (va_A [(h0, .inr (11, [.ref x0, .ref x1, .ref x2, .ref x3, .ref x4, .ref x5, .ref x6, .ref x7, .ref x8, .ref x9, .ref x10])), (x0, .inr (9, [.ref tb, .int 0, .int 0, .int (-1), .int 0, .int 0, .int 0])), (tb, .inl (cB, 600, .inl (fun _ => 0)))] sz) [(h0, .inr (11, [.ref x0, .ref x1, .ref x2, .ref x3, .ref x4, .ref x5, .ref x6, .ref x7, .ref x8, .ref x9, .ref x10])), (x0, .inr (9, [.ref tb, .int 20, .int 0, .int (-1), .int 0, .int 0, .int 0])), (tb, .inl (cB, 600, .inl (g1)))]) (va_A [(h0, .inr (11, [.ref x0, .ref x1, .ref x2, .ref x3, .ref x4, .ref x5, .ref x6, .ref x7, .ref x8, .ref x9, .ref x10])), (x0, .inr (9, [.ref tb, .int 0, .int 0, .int (-1), .int 0, .int 0, .int 0])), (tb, .inl (cB, 600, .inl (fun _ => 0)))] sz)) 0 0 (va_A [(h0, .inr (11, [.ref x0, .ref x1, .ref x2, .ref x3, .ref x4, .ref x5, .ref x6, .ref x7, .ref x8, .ref x9, .ref x10])), (x0, .inr (9, [.ref tb, .int 0, .int 0, .int (-1), .int 0, .int 0, .int 0])), (tb, .inl (cB, 600, .inl (fun _ => 0)))] sz) := by
  refine Met.ofW (cc := cX11_feed) (maxL := 6) (ret := (some .int)) (by decide) rfl ?_
  intro p e s m args below meth c s₁ B hml hv
  obtain ⟨rfl, hsz, hP, hK, hD0⟩ := hv
  have hx := B.exec
  have hb := B.bytes
  have hr := B.returns
  have hts := atoms_spec (ws := w_c_X11_feed_0) B.pre
  have hown : s.vm.findClass RX11 = some m.cls := findClass_of_methodNamed B.named
  have hlocks := B.notSynchronized
  subst hsz
  have hD := hD0.self (sz := s.heap.size)
  generalize hAe : va_A [(h0, .inr (11, [.ref x0, .ref x1, .ref x2, .ref x3, .ref x4, .ref x5, .ref x6, .ref x7, .ref x8, .ref x9, .ref x10])), (x0, .inr (9, [.ref tb, .int 0, .int 0, .int (-1), .int 0, .int 0, .int 0])), (tb, .inl (cB, 600, .inl (fun _ => 0)))] s.heap.size = A at hD ⊢
  have hA : ∀ q : Nat, s.heap.size ≤ q → A q := fun q h => by rw [← hAe]; exact Or.inr h
  have hS : va_S A s.heap s.heap [] := va_S.rf
  have hP : va_P (dC, dI) vwCl [(h0, .inr (11, [.ref x0, .ref x1, .ref x2, .ref x3, .ref x4, .ref x5, .ref x6, .ref x7, .ref x8, .ref x9, .ref x10])), (x0, .inr (9, [.ref tb, .int 0, .int 0, .int (-1), .int 0, .int 0, .int 0])), (tb, .inl (cB, 600, .inl (fun _ => 0)))] s.heap := hP
  have hl := lv_entry ([.ref h0, .int p0, .int p1, .int p2, .int p3, .int p4]) (n := 6) (Nat.le_of_ble_eq_true rfl)
  rw [lg_entry_eq]
  generalize (lg_sl ([.ref h0, .int p0, .int p1, .int p2, .int p3, .int p4]) ++ List.replicate (6 - (lg_sl ([.ref h0, .int p0, .int p1, .int p2, .int p3, .int p4])).length) Slot.unset).toArray = ls at hl ⊢
  have hl : lv_has ls 6 [(0, .ref h0), (1, .int p0), (2, .int p1), (3, .int p2), (4, .int p3), (5, .int p4)] := hl
  refine lv_aload_n hx hb dX11_feed_0 rfl (lv_at hl 0 rfl) ?_
  refine va_get (D := (dC, dI)) (ci := 11) (v := .ref x0) (C := RX11) (T := TX11) (N := 11) hx hb hts i_c_X11_feed_0_X11 hown hK hP 0 rfl rfl 0 (by decide) (hts (.fieldLink RX11 10 "OnePassport" "tape" "LOnePassport$Tape;") (List.mem_of_getElem? (i := 1) rfl)) (fun _ h9 => h9) rfl dX11_feed_1 ?_
  refine va_get (D := (dC, dI)) (ci := 9) (v := .int 0) (C := RX9) (T := TX9) (N := 7) hx hb hts i_c_X11_feed_0_X9 hown hK hP 1 rfl rfl 1 (by decide) (hts (.fieldLink RX11 71 "OnePassport$Tape" "length" "I") (List.mem_of_getElem? (i := 2) rfl)) (fun _ h9 => h9) rfl dX11_feed_4 ?_
  refine lv_bipush (v := 20) hx hb dX11_feed_7 (by decide) ?_
  refine lv_iadd hx hb dX11_feed_9 ?_
  refine wx_ti (y := 20) (by decide) ?_
  refine lv_sipush (v := 600) hx hb dX11_feed_10 (by decide) ?_
  refine lv_icmp_le (tgt := 18) hx hb dX11_feed_13 (by decide) (fun c_1 => ?_) (fun c_1 => absurd (by decide) c_1)
  refine lv_aload_n hx hb dX11_feed_18 rfl (lv_at hl 0 rfl) ?_
  refine va_get (D := (dC, dI)) (ci := 11) (v := .ref x0) (C := RX11) (T := TX11) (N := 11) hx hb hts i_c_X11_feed_0_X11 hown hK hP 0 rfl rfl 0 (by decide) (hts (.fieldLink RX11 10 "OnePassport" "tape" "LOnePassport$Tape;") (List.mem_of_getElem? (i := 1) rfl)) (fun _ h9 => h9) rfl dX11_feed_19 ?_
  refine lv_iload_n hx hb dX11_feed_22 rfl (lv_at hl 1 rfl) ?_
  have hPc := hP.sub (ws' := [(x0, .inr (9, [.ref tb, .int 0, .int 0, .int (-1), .int 0, .int 0, .int 0])), (tb, .inl (cB, 600, .inl (fun _ => 0)))]) [1, 2] rfl
  have hDc := hD.sub (ws' := [(x0, .inr (9, [.ref tb, .int 0, .int 0, .int (-1), .int 0, .int 0, .int 0])), (tb, .inl (cB, 600, .inl (fun _ => 0)))]) [1, 2] (by decide) rfl
  have hKc := hK.sub (tys' := [(cB, .byte)]) [0] rfl
  have hFc := va_free (wc := [(x0, .inr (9, [.ref tb, .int 0, .int 0, .int (-1), .int 0, .int 0, .int 0])), (tb, .inl (cB, 600, .inl (fun _ => 0)))]) hD hS hA [1, 2] rfl
  refine va_callv (va_runV (As := [.int p0]) (rest := []) ⟨hx, hb, hml, hown, hts⟩ (c_X9_append_0 l dC dI cB x0 tb p0 (fun _ => 0) s.heap.size) (cwV 1 hts g_c_X11_feed_0_0 rfl rfl rfl (by decide +kernel) ⟨Nat.le_of_ble_eq_true rfl, Nat.le_of_ble_eq_true rfl⟩) ⟨fun a U g mk q => by obtain ⟨q0, q1, qP, qK, qD⟩ := q; exact ⟨q0, q1, qP, va_K.moved (u := U) (U := U.calling g mk a) (Vm.Alike.refl U.vm) qK, qD⟩, va_recv hKc hPc (ci := 9) (q0 := 0) rfl rfl, fun U hU hW => ⟨rfl, by rw [hU], by rw [hU]; exact hPc, va_K.moved hW.alike hKc, hDc.weaken (fun _ _ _ _ => trivial)⟩⟩ rfl rfl hl.1 rfl (lv_room (Nat.le_of_ble_eq_true rfl)) dX11_feed_23 ⟨Nat.le_of_ble_eq_true rfl, Nat.le_of_ble_eq_true rfl⟩) hS (fun q _ h => hFc q h) hFc (fun u t H1 locs ht hvm hw hB hz1 hk1 hS => ?_)
  obtain ⟨g_2, hP1, hK1, hD1⟩ := hB
  rw [ht] at hP1
  try dsimp only at hw
  obtain ⟨hP, hD⟩ := va_join (wr := [(h0, .inr (11, [.ref x0, .ref x1, .ref x2, .ref x3, .ref x4, .ref x5, .ref x6, .ref x7, .ref x8, .ref x9, .ref x10]))]) (w1 := [(x0, .inr (9, [.ref tb, .int 4, .int 0, .int (-1), .int 0, .int 0, .int 0])), (tb, .inl (cB, 600, .inl (g_2)))]) hP hD [1, 2] [0] rfl rfl (by decide) (by decide) hk1 hFc hP1 hD1
  clear hPc hDc hKc hFc hk1 hP1 hK1 hD1
  generalize H1 = H at hP hS ⊢
  have hP : va_P (dC, dI) vwCl [(h0, .inr (11, [.ref x0, .ref x1, .ref x2, .ref x3, .ref x4, .ref x5, .ref x6, .ref x7, .ref x8, .ref x9, .ref x10])), (x0, .inr (9, [.ref tb, .int 4, .int 0, .int (-1), .int 0, .int 0, .int 0])), (tb, .inl (cB, 600, .inl (g_2)))] H := hP
  have hD : va_D A [(h0, .inr (11, [.ref x0, .ref x1, .ref x2, .ref x3, .ref x4, .ref x5, .ref x6, .ref x7, .ref x8, .ref x9, .ref x10])), (x0, .inr (9, [.ref tb, .int 4, .int 0, .int (-1), .int 0, .int 0, .int 0])), (tb, .inl (cB, 600, .inl (g_2)))] := hD
  refine lv_aload_n hx hb dX11_feed_26 rfl (lv_at hl 0 rfl) ?_
  refine va_get (D := (dC, dI)) (ci := 11) (v := .ref x0) (C := RX11) (T := TX11) (N := 11) hx hb hts i_c_X11_feed_0_X11 hown hK hP 0 rfl rfl 0 (by decide) (hts (.fieldLink RX11 10 "OnePassport" "tape" "LOnePassport$Tape;") (List.mem_of_getElem? (i := 1) rfl)) (fun _ h9 => h9) rfl dX11_feed_27 ?_
  refine lv_iload_n hx hb dX11_feed_30 rfl (lv_at hl 2 rfl) ?_
  have hPc := hP.sub (ws' := [(x0, .inr (9, [.ref tb, .int 4, .int 0, .int (-1), .int 0, .int 0, .int 0])), (tb, .inl (cB, 600, .inl (g_2)))]) [1, 2] rfl
  have hDc := hD.sub (ws' := [(x0, .inr (9, [.ref tb, .int 4, .int 0, .int (-1), .int 0, .int 0, .int 0])), (tb, .inl (cB, 600, .inl (g_2)))]) [1, 2] (by decide) rfl
  have hKc := hK.sub (tys' := [(cB, .byte)]) [0] rfl
  have hFc := va_free (wc := [(x0, .inr (9, [.ref tb, .int 4, .int 0, .int (-1), .int 0, .int 0, .int 0])), (tb, .inl (cB, 600, .inl (g_2)))]) hD hS hA [1, 2] rfl
  refine va_callv (va_runV (As := [.int p1]) (rest := []) ⟨hx, hb, hml, hown, hts⟩ (c_X9_append_4 l dC dI cB x0 tb p1 g_2 H.size) (cwV 1 hts g_c_X11_feed_0_1 rfl rfl rfl (by decide +kernel) ⟨Nat.le_of_ble_eq_true rfl, Nat.le_of_ble_eq_true rfl⟩) ⟨fun a U g mk q => by obtain ⟨q0, q1, qP, qK, qD⟩ := q; exact ⟨q0, q1, qP, va_K.moved (u := U) (U := U.calling g mk a) (Vm.Alike.refl U.vm) qK, qD⟩, va_recv hKc hPc (ci := 9) (q0 := 0) rfl rfl, fun U hU hW => ⟨rfl, by rw [hU], by rw [hU]; exact hPc, va_K.moved hW.alike hKc, hDc.weaken (fun _ _ _ _ => trivial)⟩⟩ rfl rfl hl.1 rfl (lv_room (Nat.le_of_ble_eq_true rfl)) dX11_feed_31 ⟨Nat.le_of_ble_eq_true rfl, Nat.le_of_ble_eq_true rfl⟩) hS (fun q _ h => hFc q h) hFc (fun u t H1 locs ht hvm hw hB hz1 hk1 hS => ?_)
  obtain ⟨g_4, hP1, hK1, hD1⟩ := hB
  rw [ht] at hP1
  try dsimp only at hw
  obtain ⟨hP, hD⟩ := va_join (wr := [(h0, .inr (11, [.ref x0, .ref x1, .ref x2, .ref x3, .ref x4, .ref x5, .ref x6, .ref x7, .ref x8, .ref x9, .ref x10]))]) (w1 := [(x0, .inr (9, [.ref tb, .int 8, .int 0, .int (-1), .int 0, .int 0, .int 0])), (tb, .inl (cB, 600, .inl (g_4)))]) hP hD [1, 2] [0] rfl rfl (by decide) (by decide) hk1 hFc hP1 hD1
  clear hPc hDc hKc hFc hk1 hP1 hK1 hD1
  generalize H1 = H at hP hS ⊢
  have hP : va_P (dC, dI) vwCl [(h0, .inr (11, [.ref x0, .ref x1, .ref x2, .ref x3, .ref x4, .ref x5, .ref x6, .ref x7, .ref x8, .ref x9, .ref x10])), (x0, .inr (9, [.ref tb, .int 8, .int 0, .int (-1), .int 0, .int 0, .int 0])), (tb, .inl (cB, 600, .inl (g_4)))] H := hP
  have hD : va_D A [(h0, .inr (11, [.ref x0, .ref x1, .ref x2, .ref x3, .ref x4, .ref x5, .ref x6, .ref x7, .ref x8, .ref x9, .ref x10])), (x0, .inr (9, [.ref tb, .int 8, .int 0, .int (-1), .int 0, .int 0, .int 0])), (tb, .inl (cB, 600, .inl (g_4)))] := hD
  refine lv_aload_n hx hb dX11_feed_34 rfl (lv_at hl 0 rfl) ?_
  refine va_get (D := (dC, dI)) (ci := 11) (v := .ref x0) (C := RX11) (T := TX11) (N := 11) hx hb hts i_c_X11_feed_0_X11 hown hK hP 0 rfl rfl 0 (by decide) (hts (.fieldLink RX11 10 "OnePassport" "tape" "LOnePassport$Tape;") (List.mem_of_getElem? (i := 1) rfl)) (fun _ h9 => h9) rfl dX11_feed_35 ?_
  refine lv_iload_n hx hb dX11_feed_38 rfl (lv_at hl 3 rfl) ?_
  have hPc := hP.sub (ws' := [(x0, .inr (9, [.ref tb, .int 8, .int 0, .int (-1), .int 0, .int 0, .int 0])), (tb, .inl (cB, 600, .inl (g_4)))]) [1, 2] rfl
  have hDc := hD.sub (ws' := [(x0, .inr (9, [.ref tb, .int 8, .int 0, .int (-1), .int 0, .int 0, .int 0])), (tb, .inl (cB, 600, .inl (g_4)))]) [1, 2] (by decide) rfl
  have hKc := hK.sub (tys' := [(cB, .byte)]) [0] rfl
  have hFc := va_free (wc := [(x0, .inr (9, [.ref tb, .int 8, .int 0, .int (-1), .int 0, .int 0, .int 0])), (tb, .inl (cB, 600, .inl (g_4)))]) hD hS hA [1, 2] rfl
  refine va_callv (va_runV (As := [.int p2]) (rest := []) ⟨hx, hb, hml, hown, hts⟩ (c_X9_append_8 l dC dI cB x0 tb p2 g_4 H.size) (cwV 1 hts g_c_X11_feed_0_2 rfl rfl rfl (by decide +kernel) ⟨Nat.le_of_ble_eq_true rfl, Nat.le_of_ble_eq_true rfl⟩) ⟨fun a U g mk q => by obtain ⟨q0, q1, qP, qK, qD⟩ := q; exact ⟨q0, q1, qP, va_K.moved (u := U) (U := U.calling g mk a) (Vm.Alike.refl U.vm) qK, qD⟩, va_recv hKc hPc (ci := 9) (q0 := 0) rfl rfl, fun U hU hW => ⟨rfl, by rw [hU], by rw [hU]; exact hPc, va_K.moved hW.alike hKc, hDc.weaken (fun _ _ _ _ => trivial)⟩⟩ rfl rfl hl.1 rfl (lv_room (Nat.le_of_ble_eq_true rfl)) dX11_feed_39 ⟨Nat.le_of_ble_eq_true rfl, Nat.le_of_ble_eq_true rfl⟩) hS (fun q _ h => hFc q h) hFc (fun u t H1 locs ht hvm hw hB hz1 hk1 hS => ?_)
  obtain ⟨g_6, hP1, hK1, hD1⟩ := hB
  rw [ht] at hP1
  try dsimp only at hw
  obtain ⟨hP, hD⟩ := va_join (wr := [(h0, .inr (11, [.ref x0, .ref x1, .ref x2, .ref x3, .ref x4, .ref x5, .ref x6, .ref x7, .ref x8, .ref x9, .ref x10]))]) (w1 := [(x0, .inr (9, [.ref tb, .int 12, .int 0, .int (-1), .int 0, .int 0, .int 0])), (tb, .inl (cB, 600, .inl (g_6)))]) hP hD [1, 2] [0] rfl rfl (by decide) (by decide) hk1 hFc hP1 hD1
  clear hPc hDc hKc hFc hk1 hP1 hK1 hD1
  generalize H1 = H at hP hS ⊢
  have hP : va_P (dC, dI) vwCl [(h0, .inr (11, [.ref x0, .ref x1, .ref x2, .ref x3, .ref x4, .ref x5, .ref x6, .ref x7, .ref x8, .ref x9, .ref x10])), (x0, .inr (9, [.ref tb, .int 12, .int 0, .int (-1), .int 0, .int 0, .int 0])), (tb, .inl (cB, 600, .inl (g_6)))] H := hP
  have hD : va_D A [(h0, .inr (11, [.ref x0, .ref x1, .ref x2, .ref x3, .ref x4, .ref x5, .ref x6, .ref x7, .ref x8, .ref x9, .ref x10])), (x0, .inr (9, [.ref tb, .int 12, .int 0, .int (-1), .int 0, .int 0, .int 0])), (tb, .inl (cB, 600, .inl (g_6)))] := hD
  refine lv_aload_n hx hb dX11_feed_42 rfl (lv_at hl 0 rfl) ?_
  refine va_get (D := (dC, dI)) (ci := 11) (v := .ref x0) (C := RX11) (T := TX11) (N := 11) hx hb hts i_c_X11_feed_0_X11 hown hK hP 0 rfl rfl 0 (by decide) (hts (.fieldLink RX11 10 "OnePassport" "tape" "LOnePassport$Tape;") (List.mem_of_getElem? (i := 1) rfl)) (fun _ h9 => h9) rfl dX11_feed_43 ?_
  refine lv_iload hx hb dX11_feed_46 (lv_at hl 4 rfl) ?_
  have hPc := hP.sub (ws' := [(x0, .inr (9, [.ref tb, .int 12, .int 0, .int (-1), .int 0, .int 0, .int 0])), (tb, .inl (cB, 600, .inl (g_6)))]) [1, 2] rfl
  have hDc := hD.sub (ws' := [(x0, .inr (9, [.ref tb, .int 12, .int 0, .int (-1), .int 0, .int 0, .int 0])), (tb, .inl (cB, 600, .inl (g_6)))]) [1, 2] (by decide) rfl
  have hKc := hK.sub (tys' := [(cB, .byte)]) [0] rfl
  have hFc := va_free (wc := [(x0, .inr (9, [.ref tb, .int 12, .int 0, .int (-1), .int 0, .int 0, .int 0])), (tb, .inl (cB, 600, .inl (g_6)))]) hD hS hA [1, 2] rfl
  refine va_callv (va_runV (As := [.int p3]) (rest := []) ⟨hx, hb, hml, hown, hts⟩ (c_X9_append_12 l dC dI cB x0 tb p3 g_6 H.size) (cwV 1 hts g_c_X11_feed_0_3 rfl rfl rfl (by decide +kernel) ⟨Nat.le_of_ble_eq_true rfl, Nat.le_of_ble_eq_true rfl⟩) ⟨fun a U g mk q => by obtain ⟨q0, q1, qP, qK, qD⟩ := q; exact ⟨q0, q1, qP, va_K.moved (u := U) (U := U.calling g mk a) (Vm.Alike.refl U.vm) qK, qD⟩, va_recv hKc hPc (ci := 9) (q0 := 0) rfl rfl, fun U hU hW => ⟨rfl, by rw [hU], by rw [hU]; exact hPc, va_K.moved hW.alike hKc, hDc.weaken (fun _ _ _ _ => trivial)⟩⟩ rfl rfl hl.1 rfl (lv_room (Nat.le_of_ble_eq_true rfl)) dX11_feed_48 ⟨Nat.le_of_ble_eq_true rfl, Nat.le_of_ble_eq_true rfl⟩) hS (fun q _ h => hFc q h) hFc (fun u t H1 locs ht hvm hw hB hz1 hk1 hS => ?_)
  obtain ⟨g_8, hP1, hK1, hD1⟩ := hB
  rw [ht] at hP1
  try dsimp only at hw
  obtain ⟨hP, hD⟩ := va_join (wr := [(h0, .inr (11, [.ref x0, .ref x1, .ref x2, .ref x3, .ref x4, .ref x5, .ref x6, .ref x7, .ref x8, .ref x9, .ref x10]))]) (w1 := [(x0, .inr (9, [.ref tb, .int 16, .int 0, .int (-1), .int 0, .int 0, .int 0])), (tb, .inl (cB, 600, .inl (g_8)))]) hP hD [1, 2] [0] rfl rfl (by decide) (by decide) hk1 hFc hP1 hD1
  clear hPc hDc hKc hFc hk1 hP1 hK1 hD1
  generalize H1 = H at hP hS ⊢
  have hP : va_P (dC, dI) vwCl [(h0, .inr (11, [.ref x0, .ref x1, .ref x2, .ref x3, .ref x4, .ref x5, .ref x6, .ref x7, .ref x8, .ref x9, .ref x10])), (x0, .inr (9, [.ref tb, .int 16, .int 0, .int (-1), .int 0, .int 0, .int 0])), (tb, .inl (cB, 600, .inl (g_8)))] H := hP
  have hD : va_D A [(h0, .inr (11, [.ref x0, .ref x1, .ref x2, .ref x3, .ref x4, .ref x5, .ref x6, .ref x7, .ref x8, .ref x9, .ref x10])), (x0, .inr (9, [.ref tb, .int 16, .int 0, .int (-1), .int 0, .int 0, .int 0])), (tb, .inl (cB, 600, .inl (g_8)))] := hD
  refine lv_aload_n hx hb dX11_feed_51 rfl (lv_at hl 0 rfl) ?_
  refine va_get (D := (dC, dI)) (ci := 11) (v := .ref x0) (C := RX11) (T := TX11) (N := 11) hx hb hts i_c_X11_feed_0_X11 hown hK hP 0 rfl rfl 0 (by decide) (hts (.fieldLink RX11 10 "OnePassport" "tape" "LOnePassport$Tape;") (List.mem_of_getElem? (i := 1) rfl)) (fun _ h9 => h9) rfl dX11_feed_52 ?_
  refine lv_iload hx hb dX11_feed_55 (lv_at hl 5 rfl) ?_
  have hPc := hP.sub (ws' := [(x0, .inr (9, [.ref tb, .int 16, .int 0, .int (-1), .int 0, .int 0, .int 0])), (tb, .inl (cB, 600, .inl (g_8)))]) [1, 2] rfl
  have hDc := hD.sub (ws' := [(x0, .inr (9, [.ref tb, .int 16, .int 0, .int (-1), .int 0, .int 0, .int 0])), (tb, .inl (cB, 600, .inl (g_8)))]) [1, 2] (by decide) rfl
  have hKc := hK.sub (tys' := [(cB, .byte)]) [0] rfl
  have hFc := va_free (wc := [(x0, .inr (9, [.ref tb, .int 16, .int 0, .int (-1), .int 0, .int 0, .int 0])), (tb, .inl (cB, 600, .inl (g_8)))]) hD hS hA [1, 2] rfl
  refine va_callv (va_runV (As := [.int p4]) (rest := []) ⟨hx, hb, hml, hown, hts⟩ (c_X9_append_16 l dC dI cB x0 tb p4 g_8 H.size) (cwV 1 hts g_c_X11_feed_0_4 rfl rfl rfl (by decide +kernel) ⟨Nat.le_of_ble_eq_true rfl, Nat.le_of_ble_eq_true rfl⟩) ⟨fun a U g mk q => by obtain ⟨q0, q1, qP, qK, qD⟩ := q; exact ⟨q0, q1, qP, va_K.moved (u := U) (U := U.calling g mk a) (Vm.Alike.refl U.vm) qK, qD⟩, va_recv hKc hPc (ci := 9) (q0 := 0) rfl rfl, fun U hU hW => ⟨rfl, by rw [hU], by rw [hU]; exact hPc, va_K.moved hW.alike hKc, hDc.weaken (fun _ _ _ _ => trivial)⟩⟩ rfl rfl hl.1 rfl (lv_room (Nat.le_of_ble_eq_true rfl)) dX11_feed_57 ⟨Nat.le_of_ble_eq_true rfl, Nat.le_of_ble_eq_true rfl⟩) hS (fun q _ h => hFc q h) hFc (fun u t H1 locs ht hvm hw hB hz1 hk1 hS => ?_)
  obtain ⟨g_10, hP1, hK1, hD1⟩ := hB
  rw [ht] at hP1
  try dsimp only at hw
  obtain ⟨hP, hD⟩ := va_join (wr := [(h0, .inr (11, [.ref x0, .ref x1, .ref x2, .ref x3, .ref x4, .ref x5, .ref x6, .ref x7, .ref x8, .ref x9, .ref x10]))]) (w1 := [(x0, .inr (9, [.ref tb, .int 20, .int 0, .int (-1), .int 0, .int 0, .int 0])), (tb, .inl (cB, 600, .inl (g_10)))]) hP hD [1, 2] [0] rfl rfl (by decide) (by decide) hk1 hFc hP1 hD1
  clear hPc hDc hKc hFc hk1 hP1 hK1 hD1
  generalize H1 = H at hP hS ⊢
  have hP : va_P (dC, dI) vwCl [(h0, .inr (11, [.ref x0, .ref x1, .ref x2, .ref x3, .ref x4, .ref x5, .ref x6, .ref x7, .ref x8, .ref x9, .ref x10])), (x0, .inr (9, [.ref tb, .int 20, .int 0, .int (-1), .int 0, .int 0, .int 0])), (tb, .inl (cB, 600, .inl (g_10)))] H := hP
  have hD : va_D A [(h0, .inr (11, [.ref x0, .ref x1, .ref x2, .ref x3, .ref x4, .ref x5, .ref x6, .ref x7, .ref x8, .ref x9, .ref x10])), (x0, .inr (9, [.ref tb, .int 20, .int 0, .int (-1), .int 0, .int 0, .int 0])), (tb, .inl (cB, 600, .inl (g_10)))] := hD
  refine lv_aload_n hx hb dX11_feed_60 rfl (lv_at hl 0 rfl) ?_
  refine va_get (D := (dC, dI)) (ci := 11) (v := .ref x0) (C := RX11) (T := TX11) (N := 11) hx hb hts i_c_X11_feed_0_X11 hown hK hP 0 rfl rfl 0 (by decide) (hts (.fieldLink RX11 10 "OnePassport" "tape" "LOnePassport$Tape;") (List.mem_of_getElem? (i := 1) rfl)) (fun _ h9 => h9) rfl dX11_feed_61 ?_
  refine va_get (D := (dC, dI)) (ci := 9) (v := .int 20) (C := RX9) (T := TX9) (N := 7) hx hb hts i_c_X11_feed_0_X9 hown hK hP 1 rfl rfl 1 (by decide) (hts (.fieldLink RX11 71 "OnePassport$Tape" "length" "I") (List.mem_of_getElem? (i := 2) rfl)) (fun _ h9 => h9) rfl dX11_feed_64 ?_
  have hP9 := hP.sub (ws' := [(h0, .inr (11, [.ref x0, .ref x1, .ref x2, .ref x3, .ref x4, .ref x5, .ref x6, .ref x7, .ref x8, .ref x9, .ref x10])), (x0, .inr (9, [.ref tb, .int 20, .int 0, .int (-1), .int 0, .int 0, .int 0])), (tb, .inl (cB, 600, .inl (g_10)))]) [0, 1, 2] rfl
  have hD9 := hD.sub (ws' := [(h0, .inr (11, [.ref x0, .ref x1, .ref x2, .ref x3, .ref x4, .ref x5, .ref x6, .ref x7, .ref x8, .ref x9, .ref x10])), (x0, .inr (9, [.ref tb, .int 20, .int 0, .int (-1), .int 0, .int 0, .int 0])), (tb, .inl (cB, 600, .inl (g_10)))]) [0, 1, 2] (by decide) rfl
  exact W.iret (v := 20) hx hb hr (fun t ht hW => ⟨⟨20, (), rfl, rfl, g_10, by rw [ht]; exact hP9, va_K.moved hW.alike hK, hD9⟩, hS.F ht⟩) hS.2.2 dX11_feed_67

theorem dX0_bitsOf_0 : decode cX0_bitsOf 0 = .ok (.iconst 0, 1) := by decide +kernel
theorem dX0_bitsOf_1 : decode cX0_bitsOf 1 = .ok (.istore_n 2, 1) := by decide +kernel
theorem dX0_bitsOf_2 : decode cX0_bitsOf 2 = .ok (.iconst 0, 1) := by decide +kernel
theorem dX0_bitsOf_3 : decode cX0_bitsOf 3 = .ok (.istore_n 3, 1) := by decide +kernel
theorem dX0_bitsOf_4 : decode cX0_bitsOf 4 = .ok (.iload_n 3, 1) := by decide +kernel
theorem dX0_bitsOf_5 : decode cX0_bitsOf 5 = .ok (.aload_n 0, 1) := by decide +kernel
theorem dX0_bitsOf_6 : decode cX0_bitsOf 6 = .ok (.getfield 43, 3) := by decide +kernel
theorem dX0_bitsOf_9 : decode cX0_bitsOf 9 = .ok (.if_icmp .ge 17, 3) := by decide +kernel
theorem dX0_bitsOf_26 : decode cX0_bitsOf 26 = .ok (.iload_n 2, 1) := by decide +kernel
theorem dX0_bitsOf_27 : decode cX0_bitsOf 27 = .ok (.ireturn, 1) := by decide +kernel
def w_c_X0_bitsOf_0 : List Cond := .code yX0_bitsOf cX0_bitsOf 4 (some .int) :: ([.fieldLink RX0 43 "OnePassport$Family" "persons" "I"] ++ wsX00)
theorem i_c_X0_bitsOf_0_X0 : ∀ w ∈ wsX00, w ∈ w_c_X0_bitsOf_0 := fun _ h => List.mem_cons_of_mem _ (List.mem_append_right _ h)
set_option maxHeartbeats 4000000 in
set_option maxRecDepth 100000 in
theorem c_X0_bitsOf_0 (l : Launch) (dC : Nat → ClassId) (dI : Nat → Nat → Nat) (h0 : Nat) (f5 : Nat) (f6 : Nat) (f7 : Nat) (f8 : Nat) (f9 : Nat) (f10 : Nat) (f11 : Nat) (a0 : Nat) (sz : Nat) : Met l yX0_bitsOf w_c_X0_bitsOf_0 ({ frames := 0, cells := 0, slots := 0, locals := 0 }) (va_Pc [.ref h0, .ref a0] (fun U => U.heap.size = sz ∧ va_P (dC, dI) vwCl [(h0, .inr (0, [.int 0, .int 0, .int 0, .int 0, .int 0, .ref f5, .ref f6, .ref f7, .ref f8, .ref f9, .ref f10, .ref f11]))] U.heap ∧ va_K (dC, dI) vwCl [] U ∧ va_D (fun _ => True) [(h0, .inr (0, [.int 0, .int 0, .int 0, .int 0, .int 0, .ref f5, .ref f6, .ref f7, .ref f8, .ref f9, .ref f10, .ref f11]))])) (va_Qi (fun (r : Int32) (_ : Unit) => r = 0) (fun (_ : Unit) (t : State) => va_P (dC, dI) vwCl [(h0, .inr (0, [.int 0, .int 0, .int 0, .int 0, .int 0, .ref f5, .ref f6, .ref f7, .ref f8, .ref f9, .ref f10, .ref f11]))] t.heap ∧ va_K (dC, dI) vwCl [] t ∧ va_D (va_A [(h0, .inr (0, [.int 0, .int 0, .int 0, .int 0, .int 0, .ref f5, .ref f6, .ref f7, .ref f8, .ref f9, .ref f10, .ref f11]))] sz) [(h0, .inr (0, [.int 0, .int 0, .int 0, .int 0, .int 0, .ref f5, .ref f6, .ref f7, .ref f8, .ref f9, .ref f10, .ref f11]))]) (va_A [(h0, .inr (0, [.int 0, .int 0, .int 0, .int 0, .int 0, .ref f5, .ref f6, .ref f7, .ref f8, .ref f9, .ref f10, .ref f11]))] sz)) 0 0 (va_A [(h0, .inr (0, [.int 0, .int 0, .int 0, .int 0, .int 0, .ref f5, .ref f6, .ref f7, .ref f8, .ref f9, .ref f10, .ref f11]))] sz) := by
  refine Met.ofW (cc := cX0_bitsOf) (maxL := 4) (ret := (some .int)) (by decide) rfl ?_
  intro p e s m args below meth c s₁ B hml hv
  obtain ⟨rfl, hsz, hP, hK, hD0⟩ := hv
  have hx := B.exec
  have hb := B.bytes
  have hr := B.returns
  have hts := atoms_spec (ws := w_c_X0_bitsOf_0) B.pre
  have hown : s.vm.findClass RX0 = some m.cls := findClass_of_methodNamed B.named
  have hlocks := B.notSynchronized
  subst hsz
  have hD := hD0.self (sz := s.heap.size)
  generalize hAe : va_A [(h0, .inr (0, [.int 0, .int 0, .int 0, .int 0, .int 0, .ref f5, .ref f6, .ref f7, .ref f8, .ref f9, .ref f10, .ref f11]))] s.heap.size = A at hD ⊢
  have hA : ∀ q : Nat, s.heap.size ≤ q → A q := fun q h => by rw [← hAe]; exact Or.inr h
  have hS : va_S A s.heap s.heap [] := va_S.rf
  have hP : va_P (dC, dI) vwCl [(h0, .inr (0, [.int 0, .int 0, .int 0, .int 0, .int 0, .ref f5, .ref f6, .ref f7, .ref f8, .ref f9, .ref f10, .ref f11]))] s.heap := hP
  have hl := lv_entry ([.ref h0, .ref a0]) (n := 4) (Nat.le_of_ble_eq_true rfl)
  rw [lg_entry_eq]
  generalize (lg_sl ([.ref h0, .ref a0]) ++ List.replicate (4 - (lg_sl ([.ref h0, .ref a0])).length) Slot.unset).toArray = ls at hl ⊢
  have hl : lv_has ls 4 [(0, .ref h0), (1, .ref a0)] := hl
  refine lv_iconst (v := 0) hx hb dX0_bitsOf_0 (by decide) ?_
  refine lv_istore_n (lv' := [(2, .int 0), (0, .ref h0), (1, .ref a0)]) hx hb dX0_bitsOf_1 rfl hl (by decide) rfl (fun ls hl => ?_)
  refine lv_iconst (v := 0) hx hb dX0_bitsOf_2 (by decide) ?_
  refine lv_istore_n (lv' := [(3, .int 0), (2, .int 0), (0, .ref h0), (1, .ref a0)]) hx hb dX0_bitsOf_3 rfl hl (by decide) rfl (fun ls hl => ?_)
  refine lv_iload_n hx hb dX0_bitsOf_4 rfl (lv_at hl 0 rfl) ?_
  refine lv_aload_n hx hb dX0_bitsOf_5 rfl (lv_at hl 2 rfl) ?_
  refine va_get (D := (dC, dI)) (ci := 0) (v := .int 0) (C := RX0) (T := TX0) (N := 12) hx hb hts i_c_X0_bitsOf_0_X0 hown hK hP 0 rfl rfl 3 (by decide) (hts (.fieldLink RX0 43 "OnePassport$Family" "persons" "I") (List.mem_of_getElem? (i := 1) rfl)) (fun _ h9 => h9) rfl dX0_bitsOf_6 ?_
  refine lv_icmp_ge (tgt := 26) hx hb dX0_bitsOf_9 (by decide) (fun c_1 => ?_) (fun c_1 => absurd (by decide) c_1)
  refine lv_iload_n hx hb dX0_bitsOf_26 rfl (lv_at hl 1 rfl) ?_
  have hP9 := hP.sub (ws' := [(h0, .inr (0, [.int 0, .int 0, .int 0, .int 0, .int 0, .ref f5, .ref f6, .ref f7, .ref f8, .ref f9, .ref f10, .ref f11]))]) [0] rfl
  have hD9 := hD.sub (ws' := [(h0, .inr (0, [.int 0, .int 0, .int 0, .int 0, .int 0, .ref f5, .ref f6, .ref f7, .ref f8, .ref f9, .ref f10, .ref f11]))]) [0] (by decide) rfl
  exact W.iret (v := 0) hx hb hr (fun t ht hW => ⟨⟨0, (), rfl, rfl, by rw [ht]; exact hP9, va_K.moved hW.alike hK, hD9⟩, hS.F ht⟩) hS.2.2 dX0_bitsOf_27

theorem dX0_children_0 : decode cX0_children 0 = .ok (.aload_n 0, 1) := by decide +kernel
theorem dX0_children_1 : decode cX0_children 1 = .ok (.aload_n 0, 1) := by decide +kernel
theorem dX0_children_2 : decode cX0_children 2 = .ok (.getfield 18, 3) := by decide +kernel
theorem dX0_children_5 : decode cX0_children 5 = .ok (.invokevirtual 85, 3) := by decide +kernel
theorem dX0_children_8 : decode cX0_children 8 = .ok (.ireturn, 1) := by decide +kernel
def w_c_X0_children_0 : List Cond := .code yX0_children cX0_children 1 (some .int) :: ([.fieldLink RX0 18 "OnePassport$Family" "child" "[I", .methodLink RX0 85 yX0_bitsOf, .instanceMethod yX0_bitsOf, .selects RX0 yX0_bitsOf yX0_bitsOf, .initialized RX0, .code yX0_bitsOf cX0_bitsOf 4 (some .int), .fieldLink RX0 43 "OnePassport$Family" "persons" "I"] ++ wsX00)
theorem i_c_X0_children_0_X0 : ∀ w ∈ wsX00, w ∈ w_c_X0_children_0 := fun _ h => List.mem_cons_of_mem _ (List.mem_append_right _ h)
set_option maxRecDepth 100000 in
theorem g_c_X0_children_0_0 : GoodIn w_c_X0_children_0 (wsV RX0 85 RX0 yX0_bitsOf w_c_X0_bitsOf_0) := goodIn_of _ (by decide +kernel)
set_option maxHeartbeats 4000000 in
set_option maxRecDepth 100000 in
theorem c_X0_children_0 (l : Launch) (dC : Nat → ClassId) (dI : Nat → Nat → Nat) (h0 : Nat) (f5 : Nat) (f6 : Nat) (f7 : Nat) (f8 : Nat) (f9 : Nat) (f10 : Nat) (f11 : Nat) (sz : Nat) : Met l yX0_children w_c_X0_children_0 ({ frames := 1, cells := 0, slots := 0, locals := 23 }) (va_Pc [.ref h0] (fun U => U.heap.size = sz ∧ va_P (dC, dI) vwCl [(h0, .inr (0, [.int 0, .int 0, .int 0, .int 0, .int 0, .ref f5, .ref f6, .ref f7, .ref f8, .ref f9, .ref f10, .ref f11]))] U.heap ∧ va_K (dC, dI) vwCl [] U ∧ va_D (fun _ => True) [(h0, .inr (0, [.int 0, .int 0, .int 0, .int 0, .int 0, .ref f5, .ref f6, .ref f7, .ref f8, .ref f9, .ref f10, .ref f11]))])) (va_Qi (fun (r : Int32) (_ : Unit) => r = 0) (fun (_ : Unit) (t : State) => va_P (dC, dI) vwCl [(h0, .inr (0, [.int 0, .int 0, .int 0, .int 0, .int 0, .ref f5, .ref f6, .ref f7, .ref f8, .ref f9, .ref f10, .ref f11]))] t.heap ∧ va_K (dC, dI) vwCl [] t ∧ va_D (va_A [(h0, .inr (0, [.int 0, .int 0, .int 0, .int 0, .int 0, .ref f5, .ref f6, .ref f7, .ref f8, .ref f9, .ref f10, .ref f11]))] sz) [(h0, .inr (0, [.int 0, .int 0, .int 0, .int 0, .int 0, .ref f5, .ref f6, .ref f7, .ref f8, .ref f9, .ref f10, .ref f11]))]) (va_A [(h0, .inr (0, [.int 0, .int 0, .int 0, .int 0, .int 0, .ref f5, .ref f6, .ref f7, .ref f8, .ref f9, .ref f10, .ref f11]))] sz)) 0 0 (va_A [(h0, .inr (0, [.int 0, .int 0, .int 0, .int 0, .int 0, .ref f5, .ref f6, .ref f7, .ref f8, .ref f9, .ref f10, .ref f11]))] sz) := by
  refine Met.ofW (cc := cX0_children) (maxL := 1) (ret := (some .int)) (by decide) rfl ?_
  intro p e s m args below meth c s₁ B hml hv
  obtain ⟨rfl, hsz, hP, hK, hD0⟩ := hv
  have hx := B.exec
  have hb := B.bytes
  have hr := B.returns
  have hts := atoms_spec (ws := w_c_X0_children_0) B.pre
  have hown : s.vm.findClass RX0 = some m.cls := findClass_of_methodNamed B.named
  have hlocks := B.notSynchronized
  subst hsz
  have hD := hD0.self (sz := s.heap.size)
  generalize hAe : va_A [(h0, .inr (0, [.int 0, .int 0, .int 0, .int 0, .int 0, .ref f5, .ref f6, .ref f7, .ref f8, .ref f9, .ref f10, .ref f11]))] s.heap.size = A at hD ⊢
  have hA : ∀ q : Nat, s.heap.size ≤ q → A q := fun q h => by rw [← hAe]; exact Or.inr h
  have hS : va_S A s.heap s.heap [] := va_S.rf
  have hP : va_P (dC, dI) vwCl [(h0, .inr (0, [.int 0, .int 0, .int 0, .int 0, .int 0, .ref f5, .ref f6, .ref f7, .ref f8, .ref f9, .ref f10, .ref f11]))] s.heap := hP
  have hl := lv_entry ([.ref h0]) (n := 1) (Nat.le_of_ble_eq_true rfl)
  rw [lg_entry_eq]
  generalize (lg_sl ([.ref h0]) ++ List.replicate (1 - (lg_sl ([.ref h0])).length) Slot.unset).toArray = ls at hl ⊢
  have hl : lv_has ls 1 [(0, .ref h0)] := hl
  refine lv_aload_n hx hb dX0_children_0 rfl (lv_at hl 0 rfl) ?_
  refine lv_aload_n hx hb dX0_children_1 rfl (lv_at hl 0 rfl) ?_
  refine va_get (D := (dC, dI)) (ci := 0) (v := .ref f7) (C := RX0) (T := TX0) (N := 12) hx hb hts i_c_X0_children_0_X0 hown hK hP 0 rfl rfl 7 (by decide) (hts (.fieldLink RX0 18 "OnePassport$Family" "child" "[I") (List.mem_of_getElem? (i := 1) rfl)) (fun _ h9 => h9) rfl dX0_children_2 ?_
  have hPc := hP.sub (ws' := [(h0, .inr (0, [.int 0, .int 0, .int 0, .int 0, .int 0, .ref f5, .ref f6, .ref f7, .ref f8, .ref f9, .ref f10, .ref f11]))]) [0] rfl
  have hDc := hD.sub (ws' := [(h0, .inr (0, [.int 0, .int 0, .int 0, .int 0, .int 0, .ref f5, .ref f6, .ref f7, .ref f8, .ref f9, .ref f10, .ref f11]))]) [0] (by decide) rfl
  have hKc := hK.sub (tys' := []) [] rfl
  have hFc := va_free (wc := [(h0, .inr (0, [.int 0, .int 0, .int 0, .int 0, .int 0, .ref f5, .ref f6, .ref f7, .ref f8, .ref f9, .ref f10, .ref f11]))]) hD hS hA [0] rfl
  refine va_calli (va_runV (As := [.ref f7]) (rest := []) ⟨hx, hb, hml, hown, hts⟩ (c_X0_bitsOf_0 l dC dI h0 f5 f6 f7 f8 f9 f10 f11 f7 s.heap.size) (cwV 1 hts g_c_X0_children_0_0 rfl rfl rfl (by decide +kernel) ⟨Nat.le_of_ble_eq_true rfl, Nat.le_of_ble_eq_true rfl⟩) ⟨fun a U g mk q => by obtain ⟨q0, q1, qP, qK, qD⟩ := q; exact ⟨q0, q1, qP, va_K.moved (u := U) (U := U.calling g mk a) (Vm.Alike.refl U.vm) qK, qD⟩, va_recv hKc hPc (ci := 0) (q0 := 0) rfl rfl, fun U hU hW => ⟨rfl, by rw [hU], by rw [hU]; exact hPc, va_K.moved hW.alike hKc, hDc.weaken (fun _ _ _ _ => trivial)⟩⟩ rfl rfl hl.1 rfl (lv_room (Nat.le_of_ble_eq_true rfl)) dX0_children_5 ⟨Nat.le_of_ble_eq_true rfl, Nat.le_of_ble_eq_true rfl⟩) hS (fun q _ h => hFc q h) hFc (fun r_1 u t H1 locs ht hvm hw hB hz1 hk1 hS => ?_)
  obtain ⟨hP1, hK1, hD1⟩ := hB
  rw [ht] at hP1
  try dsimp only at hw
  obtain ⟨hP, hD⟩ := va_join (wr := []) (w1 := [(h0, .inr (0, [.int 0, .int 0, .int 0, .int 0, .int 0, .ref f5, .ref f6, .ref f7, .ref f8, .ref f9, .ref f10, .ref f11]))]) hP hD [0] [] rfl rfl (by decide) (by decide) hk1 hFc hP1 hD1
  clear hPc hDc hKc hFc hk1 hP1 hK1 hD1
  generalize H1 = H at hP hS ⊢
  have hP : va_P (dC, dI) vwCl [(h0, .inr (0, [.int 0, .int 0, .int 0, .int 0, .int 0, .ref f5, .ref f6, .ref f7, .ref f8, .ref f9, .ref f10, .ref f11]))] H := hP
  have hD : va_D A [(h0, .inr (0, [.int 0, .int 0, .int 0, .int 0, .int 0, .ref f5, .ref f6, .ref f7, .ref f8, .ref f9, .ref f10, .ref f11]))] := hD
  have er_1 : r_1 = 0 := hw
  refine wx_ti (y := 0) er_1 ?_
  have hP9 := hP.sub (ws' := [(h0, .inr (0, [.int 0, .int 0, .int 0, .int 0, .int 0, .ref f5, .ref f6, .ref f7, .ref f8, .ref f9, .ref f10, .ref f11]))]) [0] rfl
  have hD9 := hD.sub (ws' := [(h0, .inr (0, [.int 0, .int 0, .int 0, .int 0, .int 0, .ref f5, .ref f6, .ref f7, .ref f8, .ref f9, .ref f10, .ref f11]))]) [0] (by decide) rfl
  exact W.iret (v := 0) hx hb hr (fun t ht hW => ⟨⟨0, (), rfl, rfl, by rw [ht]; exact hP9, va_K.moved hW.alike hK, hD9⟩, hS.F ht⟩) hS.2.2 dX0_children_8

theorem dX0_staying_0 : decode cX0_staying 0 = .ok (.aload_n 0, 1) := by decide +kernel
theorem dX0_staying_1 : decode cX0_staying 1 = .ok (.aload_n 0, 1) := by decide +kernel
theorem dX0_staying_2 : decode cX0_staying 2 = .ok (.getfield 21, 3) := by decide +kernel
theorem dX0_staying_5 : decode cX0_staying 5 = .ok (.invokevirtual 85, 3) := by decide +kernel
theorem dX0_staying_8 : decode cX0_staying 8 = .ok (.ireturn, 1) := by decide +kernel
def w_c_X0_staying_0 : List Cond := .code yX0_staying cX0_staying 1 (some .int) :: ([.fieldLink RX0 21 "OnePassport$Family" "stays" "[I", .methodLink RX0 85 yX0_bitsOf, .instanceMethod yX0_bitsOf, .selects RX0 yX0_bitsOf yX0_bitsOf, .initialized RX0, .code yX0_bitsOf cX0_bitsOf 4 (some .int), .fieldLink RX0 43 "OnePassport$Family" "persons" "I"] ++ wsX00)
theorem i_c_X0_staying_0_X0 : ∀ w ∈ wsX00, w ∈ w_c_X0_staying_0 := fun _ h => List.mem_cons_of_mem _ (List.mem_append_right _ h)
set_option maxRecDepth 100000 in
theorem g_c_X0_staying_0_0 : GoodIn w_c_X0_staying_0 (wsV RX0 85 RX0 yX0_bitsOf w_c_X0_bitsOf_0) := goodIn_of _ (by decide +kernel)
set_option maxHeartbeats 4000000 in
set_option maxRecDepth 100000 in
theorem c_X0_staying_0 (l : Launch) (dC : Nat → ClassId) (dI : Nat → Nat → Nat) (h0 : Nat) (f5 : Nat) (f6 : Nat) (f7 : Nat) (f8 : Nat) (f9 : Nat) (f10 : Nat) (f11 : Nat) (sz : Nat) : Met l yX0_staying w_c_X0_staying_0 ({ frames := 1, cells := 0, slots := 0, locals := 23 }) (va_Pc [.ref h0] (fun U => U.heap.size = sz ∧ va_P (dC, dI) vwCl [(h0, .inr (0, [.int 0, .int 0, .int 0, .int 0, .int 0, .ref f5, .ref f6, .ref f7, .ref f8, .ref f9, .ref f10, .ref f11]))] U.heap ∧ va_K (dC, dI) vwCl [] U ∧ va_D (fun _ => True) [(h0, .inr (0, [.int 0, .int 0, .int 0, .int 0, .int 0, .ref f5, .ref f6, .ref f7, .ref f8, .ref f9, .ref f10, .ref f11]))])) (va_Qi (fun (r : Int32) (_ : Unit) => r = 0) (fun (_ : Unit) (t : State) => va_P (dC, dI) vwCl [(h0, .inr (0, [.int 0, .int 0, .int 0, .int 0, .int 0, .ref f5, .ref f6, .ref f7, .ref f8, .ref f9, .ref f10, .ref f11]))] t.heap ∧ va_K (dC, dI) vwCl [] t ∧ va_D (va_A [(h0, .inr (0, [.int 0, .int 0, .int 0, .int 0, .int 0, .ref f5, .ref f6, .ref f7, .ref f8, .ref f9, .ref f10, .ref f11]))] sz) [(h0, .inr (0, [.int 0, .int 0, .int 0, .int 0, .int 0, .ref f5, .ref f6, .ref f7, .ref f8, .ref f9, .ref f10, .ref f11]))]) (va_A [(h0, .inr (0, [.int 0, .int 0, .int 0, .int 0, .int 0, .ref f5, .ref f6, .ref f7, .ref f8, .ref f9, .ref f10, .ref f11]))] sz)) 0 0 (va_A [(h0, .inr (0, [.int 0, .int 0, .int 0, .int 0, .int 0, .ref f5, .ref f6, .ref f7, .ref f8, .ref f9, .ref f10, .ref f11]))] sz) := by
  refine Met.ofW (cc := cX0_staying) (maxL := 1) (ret := (some .int)) (by decide) rfl ?_
  intro p e s m args below meth c s₁ B hml hv
  obtain ⟨rfl, hsz, hP, hK, hD0⟩ := hv
  have hx := B.exec
  have hb := B.bytes
  have hr := B.returns
  have hts := atoms_spec (ws := w_c_X0_staying_0) B.pre
  have hown : s.vm.findClass RX0 = some m.cls := findClass_of_methodNamed B.named
  have hlocks := B.notSynchronized
  subst hsz
  have hD := hD0.self (sz := s.heap.size)
  generalize hAe : va_A [(h0, .inr (0, [.int 0, .int 0, .int 0, .int 0, .int 0, .ref f5, .ref f6, .ref f7, .ref f8, .ref f9, .ref f10, .ref f11]))] s.heap.size = A at hD ⊢
  have hA : ∀ q : Nat, s.heap.size ≤ q → A q := fun q h => by rw [← hAe]; exact Or.inr h
  have hS : va_S A s.heap s.heap [] := va_S.rf
  have hP : va_P (dC, dI) vwCl [(h0, .inr (0, [.int 0, .int 0, .int 0, .int 0, .int 0, .ref f5, .ref f6, .ref f7, .ref f8, .ref f9, .ref f10, .ref f11]))] s.heap := hP
  have hl := lv_entry ([.ref h0]) (n := 1) (Nat.le_of_ble_eq_true rfl)
  rw [lg_entry_eq]
  generalize (lg_sl ([.ref h0]) ++ List.replicate (1 - (lg_sl ([.ref h0])).length) Slot.unset).toArray = ls at hl ⊢
  have hl : lv_has ls 1 [(0, .ref h0)] := hl
  refine lv_aload_n hx hb dX0_staying_0 rfl (lv_at hl 0 rfl) ?_
  refine lv_aload_n hx hb dX0_staying_1 rfl (lv_at hl 0 rfl) ?_
  refine va_get (D := (dC, dI)) (ci := 0) (v := .ref f8) (C := RX0) (T := TX0) (N := 12) hx hb hts i_c_X0_staying_0_X0 hown hK hP 0 rfl rfl 8 (by decide) (hts (.fieldLink RX0 21 "OnePassport$Family" "stays" "[I") (List.mem_of_getElem? (i := 1) rfl)) (fun _ h9 => h9) rfl dX0_staying_2 ?_
  have hPc := hP.sub (ws' := [(h0, .inr (0, [.int 0, .int 0, .int 0, .int 0, .int 0, .ref f5, .ref f6, .ref f7, .ref f8, .ref f9, .ref f10, .ref f11]))]) [0] rfl
  have hDc := hD.sub (ws' := [(h0, .inr (0, [.int 0, .int 0, .int 0, .int 0, .int 0, .ref f5, .ref f6, .ref f7, .ref f8, .ref f9, .ref f10, .ref f11]))]) [0] (by decide) rfl
  have hKc := hK.sub (tys' := []) [] rfl
  have hFc := va_free (wc := [(h0, .inr (0, [.int 0, .int 0, .int 0, .int 0, .int 0, .ref f5, .ref f6, .ref f7, .ref f8, .ref f9, .ref f10, .ref f11]))]) hD hS hA [0] rfl
  refine va_calli (va_runV (As := [.ref f8]) (rest := []) ⟨hx, hb, hml, hown, hts⟩ (c_X0_bitsOf_0 l dC dI h0 f5 f6 f7 f8 f9 f10 f11 f8 s.heap.size) (cwV 1 hts g_c_X0_staying_0_0 rfl rfl rfl (by decide +kernel) ⟨Nat.le_of_ble_eq_true rfl, Nat.le_of_ble_eq_true rfl⟩) ⟨fun a U g mk q => by obtain ⟨q0, q1, qP, qK, qD⟩ := q; exact ⟨q0, q1, qP, va_K.moved (u := U) (U := U.calling g mk a) (Vm.Alike.refl U.vm) qK, qD⟩, va_recv hKc hPc (ci := 0) (q0 := 0) rfl rfl, fun U hU hW => ⟨rfl, by rw [hU], by rw [hU]; exact hPc, va_K.moved hW.alike hKc, hDc.weaken (fun _ _ _ _ => trivial)⟩⟩ rfl rfl hl.1 rfl (lv_room (Nat.le_of_ble_eq_true rfl)) dX0_staying_5 ⟨Nat.le_of_ble_eq_true rfl, Nat.le_of_ble_eq_true rfl⟩) hS (fun q _ h => hFc q h) hFc (fun r_1 u t H1 locs ht hvm hw hB hz1 hk1 hS => ?_)
  obtain ⟨hP1, hK1, hD1⟩ := hB
  rw [ht] at hP1
  try dsimp only at hw
  obtain ⟨hP, hD⟩ := va_join (wr := []) (w1 := [(h0, .inr (0, [.int 0, .int 0, .int 0, .int 0, .int 0, .ref f5, .ref f6, .ref f7, .ref f8, .ref f9, .ref f10, .ref f11]))]) hP hD [0] [] rfl rfl (by decide) (by decide) hk1 hFc hP1 hD1
  clear hPc hDc hKc hFc hk1 hP1 hK1 hD1
  generalize H1 = H at hP hS ⊢
  have hP : va_P (dC, dI) vwCl [(h0, .inr (0, [.int 0, .int 0, .int 0, .int 0, .int 0, .ref f5, .ref f6, .ref f7, .ref f8, .ref f9, .ref f10, .ref f11]))] H := hP
  have hD : va_D A [(h0, .inr (0, [.int 0, .int 0, .int 0, .int 0, .int 0, .ref f5, .ref f6, .ref f7, .ref f8, .ref f9, .ref f10, .ref f11]))] := hD
  have er_1 : r_1 = 0 := hw
  refine wx_ti (y := 0) er_1 ?_
  have hP9 := hP.sub (ws' := [(h0, .inr (0, [.int 0, .int 0, .int 0, .int 0, .int 0, .ref f5, .ref f6, .ref f7, .ref f8, .ref f9, .ref f10, .ref f11]))]) [0] rfl
  have hD9 := hD.sub (ws' := [(h0, .inr (0, [.int 0, .int 0, .int 0, .int 0, .int 0, .ref f5, .ref f6, .ref f7, .ref f8, .ref f9, .ref f10, .ref f11]))]) [0] (by decide) rfl
  exact W.iret (v := 0) hx hb hr (fun t ht hW => ⟨⟨0, (), rfl, rfl, by rw [ht]; exact hP9, va_K.moved hW.alike hK, hD9⟩, hS.F ht⟩) hS.2.2 dX0_staying_8

theorem dJ6_bitCount_0f7a4_0 : decode cJ6_bitCount_0f7a4 0 = .ok (.iload_n 0, 1) := by decide +kernel
theorem dJ6_bitCount_0f7a4_1 : decode cJ6_bitCount_0f7a4 1 = .ok (.iload_n 0, 1) := by decide +kernel
theorem dJ6_bitCount_0f7a4_2 : decode cJ6_bitCount_0f7a4 2 = .ok (.iconst 1, 1) := by decide +kernel
theorem dJ6_bitCount_0f7a4_3 : decode cJ6_bitCount_0f7a4 3 = .ok (.iushr, 1) := by decide +kernel
theorem dJ6_bitCount_0f7a4_4 : decode cJ6_bitCount_0f7a4 4 = .ok (.ldc_w 265, 3) := by decide +kernel
theorem dJ6_bitCount_0f7a4_7 : decode cJ6_bitCount_0f7a4 7 = .ok (.iand, 1) := by decide +kernel
theorem dJ6_bitCount_0f7a4_8 : decode cJ6_bitCount_0f7a4 8 = .ok (.isub, 1) := by decide +kernel
theorem dJ6_bitCount_0f7a4_9 : decode cJ6_bitCount_0f7a4 9 = .ok (.istore_n 0, 1) := by decide +kernel
theorem dJ6_bitCount_0f7a4_10 : decode cJ6_bitCount_0f7a4 10 = .ok (.iload_n 0, 1) := by decide +kernel
theorem dJ6_bitCount_0f7a4_11 : decode cJ6_bitCount_0f7a4 11 = .ok (.ldc_w 266, 3) := by decide +kernel
theorem dJ6_bitCount_0f7a4_14 : decode cJ6_bitCount_0f7a4 14 = .ok (.iand, 1) := by decide +kernel
theorem dJ6_bitCount_0f7a4_15 : decode cJ6_bitCount_0f7a4 15 = .ok (.iload_n 0, 1) := by decide +kernel
theorem dJ6_bitCount_0f7a4_16 : decode cJ6_bitCount_0f7a4 16 = .ok (.iconst 2, 1) := by decide +kernel
theorem dJ6_bitCount_0f7a4_17 : decode cJ6_bitCount_0f7a4 17 = .ok (.iushr, 1) := by decide +kernel
theorem dJ6_bitCount_0f7a4_18 : decode cJ6_bitCount_0f7a4 18 = .ok (.ldc_w 266, 3) := by decide +kernel
theorem dJ6_bitCount_0f7a4_21 : decode cJ6_bitCount_0f7a4 21 = .ok (.iand, 1) := by decide +kernel
theorem dJ6_bitCount_0f7a4_22 : decode cJ6_bitCount_0f7a4 22 = .ok (.iadd, 1) := by decide +kernel
theorem dJ6_bitCount_0f7a4_23 : decode cJ6_bitCount_0f7a4 23 = .ok (.istore_n 0, 1) := by decide +kernel
theorem dJ6_bitCount_0f7a4_24 : decode cJ6_bitCount_0f7a4 24 = .ok (.iload_n 0, 1) := by decide +kernel
theorem dJ6_bitCount_0f7a4_25 : decode cJ6_bitCount_0f7a4 25 = .ok (.iload_n 0, 1) := by decide +kernel
theorem dJ6_bitCount_0f7a4_26 : decode cJ6_bitCount_0f7a4 26 = .ok (.iconst 4, 1) := by decide +kernel
theorem dJ6_bitCount_0f7a4_27 : decode cJ6_bitCount_0f7a4 27 = .ok (.iushr, 1) := by decide +kernel
theorem dJ6_bitCount_0f7a4_28 : decode cJ6_bitCount_0f7a4 28 = .ok (.iadd, 1) := by decide +kernel
theorem dJ6_bitCount_0f7a4_29 : decode cJ6_bitCount_0f7a4 29 = .ok (.ldc_w 267, 3) := by decide +kernel
theorem dJ6_bitCount_0f7a4_32 : decode cJ6_bitCount_0f7a4 32 = .ok (.iand, 1) := by decide +kernel
theorem dJ6_bitCount_0f7a4_33 : decode cJ6_bitCount_0f7a4 33 = .ok (.istore_n 0, 1) := by decide +kernel
theorem dJ6_bitCount_0f7a4_34 : decode cJ6_bitCount_0f7a4 34 = .ok (.iload_n 0, 1) := by decide +kernel
theorem dJ6_bitCount_0f7a4_35 : decode cJ6_bitCount_0f7a4 35 = .ok (.iload_n 0, 1) := by decide +kernel
theorem dJ6_bitCount_0f7a4_36 : decode cJ6_bitCount_0f7a4 36 = .ok (.bipush 8, 2) := by decide +kernel
theorem dJ6_bitCount_0f7a4_38 : decode cJ6_bitCount_0f7a4 38 = .ok (.iushr, 1) := by decide +kernel
theorem dJ6_bitCount_0f7a4_39 : decode cJ6_bitCount_0f7a4 39 = .ok (.iadd, 1) := by decide +kernel
theorem dJ6_bitCount_0f7a4_40 : decode cJ6_bitCount_0f7a4 40 = .ok (.istore_n 0, 1) := by decide +kernel
theorem dJ6_bitCount_0f7a4_41 : decode cJ6_bitCount_0f7a4 41 = .ok (.iload_n 0, 1) := by decide +kernel
theorem dJ6_bitCount_0f7a4_42 : decode cJ6_bitCount_0f7a4 42 = .ok (.iload_n 0, 1) := by decide +kernel
theorem dJ6_bitCount_0f7a4_43 : decode cJ6_bitCount_0f7a4 43 = .ok (.bipush 16, 2) := by decide +kernel
theorem dJ6_bitCount_0f7a4_45 : decode cJ6_bitCount_0f7a4 45 = .ok (.iushr, 1) := by decide +kernel
theorem dJ6_bitCount_0f7a4_46 : decode cJ6_bitCount_0f7a4 46 = .ok (.iadd, 1) := by decide +kernel
theorem dJ6_bitCount_0f7a4_47 : decode cJ6_bitCount_0f7a4 47 = .ok (.istore_n 0, 1) := by decide +kernel
theorem dJ6_bitCount_0f7a4_48 : decode cJ6_bitCount_0f7a4 48 = .ok (.iload_n 0, 1) := by decide +kernel
theorem dJ6_bitCount_0f7a4_49 : decode cJ6_bitCount_0f7a4 49 = .ok (.bipush 63, 2) := by decide +kernel
theorem dJ6_bitCount_0f7a4_51 : decode cJ6_bitCount_0f7a4 51 = .ok (.iand, 1) := by decide +kernel
theorem dJ6_bitCount_0f7a4_52 : decode cJ6_bitCount_0f7a4 52 = .ok (.ireturn, 1) := by decide +kernel
def w_c_bitCount_0 : List Cond := .code yJ6_bitCount_0f7a4 cJ6_bitCount_0f7a4 1 (some .int) :: ([.constant RJ6 265 (1431655765), .constant RJ6 266 (858993459), .constant RJ6 267 (252645135)])
set_option maxHeartbeats 4000000 in
set_option maxRecDepth 100000 in
theorem c_bitCount_0 (l : Launch) (dC : Nat → ClassId) (dI : Nat → Nat → Nat)  (sz : Nat) : Met l yJ6_bitCount_0f7a4 w_c_bitCount_0 ({ frames := 0, cells := 0, slots := 0, locals := 0 }) (va_Pc [.int 0] (fun U => U.heap.size = sz ∧ va_P (dC, dI) vwCl [] U.heap ∧ va_K (dC, dI) vwCl [] U ∧ va_D (fun _ => True) [])) (va_Qi (fun (r : Int32) (_ : Unit) => r = 0) (fun (_ : Unit) (t : State) => va_P (dC, dI) vwCl [] t.heap ∧ va_K (dC, dI) vwCl [] t ∧ va_D (va_A [] sz) []) (va_A [] sz)) 0 0 (va_A [] sz) := by
  refine Met.ofW (cc := cJ6_bitCount_0f7a4) (maxL := 1) (ret := (some .int)) (by decide) rfl ?_
  intro p e s m args below meth c s₁ B hml hv
  obtain ⟨rfl, hsz, hP, hK, hD0⟩ := hv
  have hx := B.exec
  have hb := B.bytes
  have hr := B.returns
  have hts := atoms_spec (ws := w_c_bitCount_0) B.pre
  have hown : s.vm.findClass RJ6 = some m.cls := findClass_of_methodNamed B.named
  have hlocks := B.notSynchronized
  subst hsz
  have hD := hD0.self (sz := s.heap.size)
  generalize hAe : va_A [] s.heap.size = A at hD ⊢
  have hA : ∀ q : Nat, s.heap.size ≤ q → A q := fun q h => by rw [← hAe]; exact Or.inr h
  have hS : va_S A s.heap s.heap [] := va_S.rf
  have hP : va_P (dC, dI) vwCl [] s.heap := hP
  have hl := lv_entry ([.int 0]) (n := 1) (Nat.le_of_ble_eq_true rfl)
  rw [lg_entry_eq]
  generalize (lg_sl ([.int 0]) ++ List.replicate (1 - (lg_sl ([.int 0])).length) Slot.unset).toArray = ls at hl ⊢
  have hl : lv_has ls 1 [(0, .int 0)] := hl
  refine lv_iload_n hx hb dJ6_bitCount_0f7a4_0 rfl (lv_at hl 0 rfl) ?_
  refine lv_iload_n hx hb dJ6_bitCount_0f7a4_1 rfl (lv_at hl 0 rfl) ?_
  refine lv_iconst (v := 1) hx hb dJ6_bitCount_0f7a4_2 (by decide) ?_
  refine lv_iushr (v := 0) hx hb dJ6_bitCount_0f7a4_3 (by decide) ?_
  refine lv_ldcw hx hb (v := 1431655765) hown (hts (.constant RJ6 265 (1431655765)) (List.mem_of_getElem? (i := 1) rfl)) dJ6_bitCount_0f7a4_4 ?_
  refine lv_iand hx hb dJ6_bitCount_0f7a4_7 ?_
  refine wx_ti (y := 0) (by decide) ?_
  refine lv_isub hx hb dJ6_bitCount_0f7a4_8 ?_
  refine wx_ti (y := 0) (by decide) ?_
  refine lv_istore_n (lv' := [(0, .int 0)]) hx hb dJ6_bitCount_0f7a4_9 rfl hl (by decide) rfl (fun ls hl => ?_)
  refine lv_iload_n hx hb dJ6_bitCount_0f7a4_10 rfl (lv_at hl 0 rfl) ?_
  refine lv_ldcw hx hb (v := 858993459) hown (hts (.constant RJ6 266 (858993459)) (List.mem_of_getElem? (i := 2) rfl)) dJ6_bitCount_0f7a4_11 ?_
  refine lv_iand hx hb dJ6_bitCount_0f7a4_14 ?_
  refine wx_ti (y := 0) (by decide) ?_
  refine lv_iload_n hx hb dJ6_bitCount_0f7a4_15 rfl (lv_at hl 0 rfl) ?_
  refine lv_iconst (v := 2) hx hb dJ6_bitCount_0f7a4_16 (by decide) ?_
  refine lv_iushr (v := 0) hx hb dJ6_bitCount_0f7a4_17 (by decide) ?_
  refine lv_ldcw hx hb (v := 858993459) hown (hts (.constant RJ6 266 (858993459)) (List.mem_of_getElem? (i := 2) rfl)) dJ6_bitCount_0f7a4_18 ?_
  refine lv_iand hx hb dJ6_bitCount_0f7a4_21 ?_
  refine wx_ti (y := 0) (by decide) ?_
  refine lv_iadd hx hb dJ6_bitCount_0f7a4_22 ?_
  refine wx_ti (y := 0) (by decide) ?_
  refine lv_istore_n (lv' := [(0, .int 0)]) hx hb dJ6_bitCount_0f7a4_23 rfl hl (by decide) rfl (fun ls hl => ?_)
  refine lv_iload_n hx hb dJ6_bitCount_0f7a4_24 rfl (lv_at hl 0 rfl) ?_
  refine lv_iload_n hx hb dJ6_bitCount_0f7a4_25 rfl (lv_at hl 0 rfl) ?_
  refine lv_iconst (v := 4) hx hb dJ6_bitCount_0f7a4_26 (by decide) ?_
  refine lv_iushr (v := 0) hx hb dJ6_bitCount_0f7a4_27 (by decide) ?_
  refine lv_iadd hx hb dJ6_bitCount_0f7a4_28 ?_
  refine wx_ti (y := 0) (by decide) ?_
  refine lv_ldcw hx hb (v := 252645135) hown (hts (.constant RJ6 267 (252645135)) (List.mem_of_getElem? (i := 3) rfl)) dJ6_bitCount_0f7a4_29 ?_
  refine lv_iand hx hb dJ6_bitCount_0f7a4_32 ?_
  refine wx_ti (y := 0) (by decide) ?_
  refine lv_istore_n (lv' := [(0, .int 0)]) hx hb dJ6_bitCount_0f7a4_33 rfl hl (by decide) rfl (fun ls hl => ?_)
  refine lv_iload_n hx hb dJ6_bitCount_0f7a4_34 rfl (lv_at hl 0 rfl) ?_
  refine lv_iload_n hx hb dJ6_bitCount_0f7a4_35 rfl (lv_at hl 0 rfl) ?_
  refine lv_bipush (v := 8) hx hb dJ6_bitCount_0f7a4_36 (by decide) ?_
  refine lv_iushr (v := 0) hx hb dJ6_bitCount_0f7a4_38 (by decide) ?_
  refine lv_iadd hx hb dJ6_bitCount_0f7a4_39 ?_
  refine wx_ti (y := 0) (by decide) ?_
  refine lv_istore_n (lv' := [(0, .int 0)]) hx hb dJ6_bitCount_0f7a4_40 rfl hl (by decide) rfl (fun ls hl => ?_)
  refine lv_iload_n hx hb dJ6_bitCount_0f7a4_41 rfl (lv_at hl 0 rfl) ?_
  refine lv_iload_n hx hb dJ6_bitCount_0f7a4_42 rfl (lv_at hl 0 rfl) ?_
  refine lv_bipush (v := 16) hx hb dJ6_bitCount_0f7a4_43 (by decide) ?_
  refine lv_iushr (v := 0) hx hb dJ6_bitCount_0f7a4_45 (by decide) ?_
  refine lv_iadd hx hb dJ6_bitCount_0f7a4_46 ?_
  refine wx_ti (y := 0) (by decide) ?_
  refine lv_istore_n (lv' := [(0, .int 0)]) hx hb dJ6_bitCount_0f7a4_47 rfl hl (by decide) rfl (fun ls hl => ?_)
  refine lv_iload_n hx hb dJ6_bitCount_0f7a4_48 rfl (lv_at hl 0 rfl) ?_
  refine lv_bipush (v := 63) hx hb dJ6_bitCount_0f7a4_49 (by decide) ?_
  refine lv_iand hx hb dJ6_bitCount_0f7a4_51 ?_
  refine wx_ti (y := 0) (by decide) ?_
  have hP9 := hP.sub (ws' := []) [] rfl
  have hD9 := hD.sub (ws' := []) [] (by decide) rfl
  exact W.iret (v := 0) hx hb hr (fun t ht hW => ⟨⟨0, (), rfl, rfl, by rw [ht]; exact hP9, va_K.moved hW.alike hK, hD9⟩, hS.F ht⟩) hS.2.2 dJ6_bitCount_0f7a4_52

theorem dX8_countRows_0 : decode cX8_countRows 0 = .ok (.iconst 0, 1) := by decide +kernel
theorem dX8_countRows_1 : decode cX8_countRows 1 = .ok (.istore_n 1, 1) := by decide +kernel
theorem dX8_countRows_2 : decode cX8_countRows 2 = .ok (.iconst 0, 1) := by decide +kernel
theorem dX8_countRows_3 : decode cX8_countRows 3 = .ok (.istore_n 2, 1) := by decide +kernel
theorem dX8_countRows_4 : decode cX8_countRows 4 = .ok (.iload_n 2, 1) := by decide +kernel
theorem dX8_countRows_5 : decode cX8_countRows 5 = .ok (.iconst 4, 1) := by decide +kernel
theorem dX8_countRows_6 : decode cX8_countRows 6 = .ok (.if_icmp .ge 20, 3) := by decide +kernel
theorem dX8_countRows_9 : decode cX8_countRows 9 = .ok (.aload_n 0, 1) := by decide +kernel
theorem dX8_countRows_10 : decode cX8_countRows 10 = .ok (.iload_n 2, 1) := by decide +kernel
theorem dX8_countRows_11 : decode cX8_countRows 11 = .ok (.invokevirtual 32, 3) := by decide +kernel
theorem dX8_countRows_14 : decode cX8_countRows 14 = .ok (.ifCond .eq 6, 3) := by decide +kernel
theorem dX8_countRows_20 : decode cX8_countRows 20 = .ok (.iinc 2 1, 3) := by decide +kernel
theorem dX8_countRows_23 : decode cX8_countRows 23 = .ok (.goto (-19), 3) := by decide +kernel
theorem dX8_countRows_26 : decode cX8_countRows 26 = .ok (.iload_n 1, 1) := by decide +kernel
theorem dX8_countRows_27 : decode cX8_countRows 27 = .ok (.ireturn, 1) := by decide +kernel
def w_c_X8_countRows_0 : List Cond := .code yX8_countRows cX8_countRows 3 (some .int) :: ([.methodLink RX8 32 yX8_hasRow, .instanceMethod yX8_hasRow, .selects RX8 yX8_hasRow yX8_hasRow, .initialized RX8, .code yX8_hasRow cX8_hasRow 2 (some .boolean), .fieldLink RX8 20 "OnePassport$Slots" "size" "[I"] ++ wsX80)
theorem i_c_X8_countRows_0_X8 : ∀ w ∈ wsX80, w ∈ w_c_X8_countRows_0 := fun _ h => List.mem_cons_of_mem _ (List.mem_append_right _ h)
set_option maxRecDepth 100000 in
theorem g_c_X8_countRows_0_0 : GoodIn w_c_X8_countRows_0 (wsV RX8 32 RX8 yX8_hasRow w_c_X8_hasRow_0) := goodIn_of _ (by decide +kernel)
set_option maxHeartbeats 4000000 in
set_option maxRecDepth 100000 in
theorem c_X8_countRows_0 (l : Launch) (dC : Nat → ClassId) (dI : Nat → Nat → Nat) (cI : ClassId) (h0 : Nat) (sn : Nat) (sw : Nat) (ss : Nat) (sz : Nat) : Met l yX8_countRows w_c_X8_countRows_0 ({ frames := 1, cells := 0, slots := 0, locals := 21 }) (va_Pc [.ref h0] (fun U => U.heap.size = sz ∧ va_P (dC, dI) vwCl [(h0, .inr (8, [.ref sn, .ref sw, .ref ss])), (ss, .inl (cI, 4, .inl (fun _ => (-1))))] U.heap ∧ va_K (dC, dI) vwCl [(cI, .int)] U ∧ va_D (fun _ => True) [(h0, .inr (8, [.ref sn, .ref sw, .ref ss])), (ss, .inl (cI, 4, .inl (fun _ => (-1))))])) (va_Qi (fun (r : Int32) (_ : Unit) => r = 0) (fun (_ : Unit) (t : State) => va_P (dC, dI) vwCl [(h0, .inr (8, [.ref sn, .ref sw, .ref ss])), (ss, .inl (cI, 4, .inl (fun _ => (-1))))] t.heap ∧ va_K (dC, dI) vwCl [(cI, .int)] t ∧ va_D (va_A [(h0, .inr (8, [.ref sn, .ref sw, .ref ss])), (ss, .inl (cI, 4, .inl (fun _ => (-1))))] sz) [(h0, .inr (8, [.ref sn, .ref sw, .ref ss])), (ss, .inl (cI, 4, .inl (fun _ => (-1))))]) (va_A [(h0, .inr (8, [.ref sn, .ref sw, .ref ss])), (ss, .inl (cI, 4, .inl (fun _ => (-1))))] sz)) 0 0 (va_A [(h0, .inr (8, [.ref sn, .ref sw, .ref ss])), (ss, .inl (cI, 4, .inl (fun _ => (-1))))] sz) := by
  refine Met.ofW (cc := cX8_countRows) (maxL := 3) (ret := (some .int)) (by decide) rfl ?_
  intro p e s m args below meth c s₁ B hml hv
  obtain ⟨rfl, hsz, hP, hK, hD0⟩ := hv
  have hx := B.exec
  have hb := B.bytes
  have hr := B.returns
  have hts := atoms_spec (ws := w_c_X8_countRows_0) B.pre
  have hown : s.vm.findClass RX8 = some m.cls := findClass_of_methodNamed B.named
  have hlocks := B.notSynchronized
  subst hsz
  have hD := hD0.self (sz := s.heap.size)
  generalize hAe : va_A [(h0, .inr (8, [.ref sn, .ref sw, .ref ss])), (ss, .inl (cI, 4, .inl (fun _ => (-1))))] s.heap.size = A at hD ⊢
  have hA : ∀ q : Nat, s.heap.size ≤ q → A q := fun q h => by rw [← hAe]; exact Or.inr h
  have hS : va_S A s.heap s.heap [] := va_S.rf
  have hP : va_P (dC, dI) vwCl [(h0, .inr (8, [.ref sn, .ref sw, .ref ss])), (ss, .inl (cI, 4, .inl (fun _ => (-1))))] s.heap := hP
  have hl := lv_entry ([.ref h0]) (n := 3) (Nat.le_of_ble_eq_true rfl)
  rw [lg_entry_eq]
  generalize (lg_sl ([.ref h0]) ++ List.replicate (3 - (lg_sl ([.ref h0])).length) Slot.unset).toArray = ls at hl ⊢
  have hl : lv_has ls 3 [(0, .ref h0)] := hl
  refine lv_iconst (v := 0) hx hb dX8_countRows_0 (by decide) ?_
  refine lv_istore_n (lv' := [(1, .int 0), (0, .ref h0)]) hx hb dX8_countRows_1 rfl hl (by decide) rfl (fun ls hl => ?_)
  refine lv_iconst (v := 0) hx hb dX8_countRows_2 (by decide) ?_
  refine lv_istore_n (lv' := [(2, .int 0), (1, .int 0), (0, .ref h0)]) hx hb dX8_countRows_3 rfl hl (by decide) rfl (fun ls hl => ?_)
  refine lv_iload_n hx hb dX8_countRows_4 rfl (lv_at hl 0 rfl) ?_
  refine lv_iconst (v := 4) hx hb dX8_countRows_5 (by decide) ?_
  refine lv_icmp_ge (tgt := 26) hx hb dX8_countRows_6 (by decide) (fun c_1 => absurd c_1 (by decide)) (fun c_1 => ?_)
  refine lv_aload_n hx hb dX8_countRows_9 rfl (lv_at hl 2 rfl) ?_
  refine lv_iload_n hx hb dX8_countRows_10 rfl (lv_at hl 0 rfl) ?_
  have hPc := hP.sub (ws' := [(h0, .inr (8, [.ref sn, .ref sw, .ref ss])), (ss, .inl (cI, 4, .inl (fun _ => (-1))))]) [0, 1] rfl
  have hDc := hD.sub (ws' := [(h0, .inr (8, [.ref sn, .ref sw, .ref ss])), (ss, .inl (cI, 4, .inl (fun _ => (-1))))]) [0, 1] (by decide) rfl
  have hKc := hK.sub (tys' := [(cI, .int)]) [0] rfl
  have hFc := va_free (wc := [(h0, .inr (8, [.ref sn, .ref sw, .ref ss])), (ss, .inl (cI, 4, .inl (fun _ => (-1))))]) hD hS hA [0, 1] rfl
  refine va_calli (va_runV (As := [.int 0]) (rest := []) ⟨hx, hb, hml, hown, hts⟩ (c_X8_hasRow_0 l dC dI cI h0 sn sw ss 0 (by unfold vp_in; decide) s.heap.size) (cwV 1 hts g_c_X8_countRows_0_0 rfl rfl rfl (by decide +kernel) ⟨Nat.le_of_ble_eq_true rfl, Nat.le_of_ble_eq_true rfl⟩) ⟨fun a U g mk q => by obtain ⟨q0, q1, qP, qK, qD⟩ := q; exact ⟨q0, q1, qP, va_K.moved (u := U) (U := U.calling g mk a) (Vm.Alike.refl U.vm) qK, qD⟩, va_recv hKc hPc (ci := 8) (q0 := 0) rfl rfl, fun U hU hW => ⟨rfl, by rw [hU], by rw [hU]; exact hPc, va_K.moved hW.alike hKc, hDc.weaken (fun _ _ _ _ => trivial)⟩⟩ rfl rfl hl.1 rfl (lv_room (Nat.le_of_ble_eq_true rfl)) dX8_countRows_11 ⟨Nat.le_of_ble_eq_true rfl, Nat.le_of_ble_eq_true rfl⟩) hS (fun q _ h => hFc q h) hFc (fun r_2 u t H1 locs ht hvm hw hB hz1 hk1 hS => ?_)
  obtain ⟨hP1, hK1, hD1⟩ := hB
  rw [ht] at hP1
  try dsimp only at hw
  obtain ⟨hP, hD⟩ := va_join (wr := []) (w1 := [(h0, .inr (8, [.ref sn, .ref sw, .ref ss])), (ss, .inl (cI, 4, .inl (fun _ => (-1))))]) hP hD [0, 1] [] rfl rfl (by decide) (by decide) hk1 hFc hP1 hD1
  clear hPc hDc hKc hFc hk1 hP1 hK1 hD1
  generalize H1 = H at hP hS ⊢
  have hP : va_P (dC, dI) vwCl [(h0, .inr (8, [.ref sn, .ref sw, .ref ss])), (ss, .inl (cI, 4, .inl (fun _ => (-1))))] H := hP
  have hD : va_D A [(h0, .inr (8, [.ref sn, .ref sw, .ref ss])), (ss, .inl (cI, 4, .inl (fun _ => (-1))))] := hD
  have er_2 : r_2 = 0 := hw
  refine wx_ti (y := 0) er_2 ?_
  refine lv_if_eq (tgt := 20) hx hb dX8_countRows_14 (by decide) (fun c_3 => ?_) (fun c_3 => absurd rfl c_3)
  refine lv_iinc (v := 1) (lv' := [(2, .int 1), (1, .int 0), (0, .ref h0)]) hx hb dX8_countRows_20 hl (k := 0) rfl (by decide) (by decide) rfl (fun ls hl => ?_)
  refine lv_goto (tgt := 4) hx hb dX8_countRows_23 (by decide) ?_
  refine lv_iload_n hx hb dX8_countRows_4 rfl (lv_at hl 0 rfl) ?_
  refine lv_iconst (v := 4) hx hb dX8_countRows_5 (by decide) ?_
  refine lv_icmp_ge (tgt := 26) hx hb dX8_countRows_6 (by decide) (fun c_4 => absurd c_4 (by decide)) (fun c_4 => ?_)
  refine lv_aload_n hx hb dX8_countRows_9 rfl (lv_at hl 2 rfl) ?_
  refine lv_iload_n hx hb dX8_countRows_10 rfl (lv_at hl 0 rfl) ?_
  have hPc := hP.sub (ws' := [(h0, .inr (8, [.ref sn, .ref sw, .ref ss])), (ss, .inl (cI, 4, .inl (fun _ => (-1))))]) [0, 1] rfl
  have hDc := hD.sub (ws' := [(h0, .inr (8, [.ref sn, .ref sw, .ref ss])), (ss, .inl (cI, 4, .inl (fun _ => (-1))))]) [0, 1] (by decide) rfl
  have hKc := hK.sub (tys' := [(cI, .int)]) [0] rfl
  have hFc := va_free (wc := [(h0, .inr (8, [.ref sn, .ref sw, .ref ss])), (ss, .inl (cI, 4, .inl (fun _ => (-1))))]) hD hS hA [0, 1] rfl
  refine va_calli (va_runV (As := [.int 1]) (rest := []) ⟨hx, hb, hml, hown, hts⟩ (c_X8_hasRow_0 l dC dI cI h0 sn sw ss 1 (by unfold vp_in; decide) H.size) (cwV 1 hts g_c_X8_countRows_0_0 rfl rfl rfl (by decide +kernel) ⟨Nat.le_of_ble_eq_true rfl, Nat.le_of_ble_eq_true rfl⟩) ⟨fun a U g mk q => by obtain ⟨q0, q1, qP, qK, qD⟩ := q; exact ⟨q0, q1, qP, va_K.moved (u := U) (U := U.calling g mk a) (Vm.Alike.refl U.vm) qK, qD⟩, va_recv hKc hPc (ci := 8) (q0 := 0) rfl rfl, fun U hU hW => ⟨rfl, by rw [hU], by rw [hU]; exact hPc, va_K.moved hW.alike hKc, hDc.weaken (fun _ _ _ _ => trivial)⟩⟩ rfl rfl hl.1 rfl (lv_room (Nat.le_of_ble_eq_true rfl)) dX8_countRows_11 ⟨Nat.le_of_ble_eq_true rfl, Nat.le_of_ble_eq_true rfl⟩) hS (fun q _ h => hFc q h) hFc (fun r_5 u t H1 locs ht hvm hw hB hz1 hk1 hS => ?_)
  obtain ⟨hP1, hK1, hD1⟩ := hB
  rw [ht] at hP1
  try dsimp only at hw
  obtain ⟨hP, hD⟩ := va_join (wr := []) (w1 := [(h0, .inr (8, [.ref sn, .ref sw, .ref ss])), (ss, .inl (cI, 4, .inl (fun _ => (-1))))]) hP hD [0, 1] [] rfl rfl (by decide) (by decide) hk1 hFc hP1 hD1
  clear hPc hDc hKc hFc hk1 hP1 hK1 hD1
  generalize H1 = H at hP hS ⊢
  have hP : va_P (dC, dI) vwCl [(h0, .inr (8, [.ref sn, .ref sw, .ref ss])), (ss, .inl (cI, 4, .inl (fun _ => (-1))))] H := hP
  have hD : va_D A [(h0, .inr (8, [.ref sn, .ref sw, .ref ss])), (ss, .inl (cI, 4, .inl (fun _ => (-1))))] := hD
  have er_5 : r_5 = 0 := hw
  refine wx_ti (y := 0) er_5 ?_
  refine lv_if_eq (tgt := 20) hx hb dX8_countRows_14 (by decide) (fun c_6 => ?_) (fun c_6 => absurd rfl c_6)
  refine lv_iinc (v := 2) (lv' := [(2, .int 2), (1, .int 0), (0, .ref h0)]) hx hb dX8_countRows_20 hl (k := 0) rfl (by decide) (by decide) rfl (fun ls hl => ?_)
  refine lv_goto (tgt := 4) hx hb dX8_countRows_23 (by decide) ?_
  refine lv_iload_n hx hb dX8_countRows_4 rfl (lv_at hl 0 rfl) ?_
  refine lv_iconst (v := 4) hx hb dX8_countRows_5 (by decide) ?_
  refine lv_icmp_ge (tgt := 26) hx hb dX8_countRows_6 (by decide) (fun c_7 => absurd c_7 (by decide)) (fun c_7 => ?_)
  refine lv_aload_n hx hb dX8_countRows_9 rfl (lv_at hl 2 rfl) ?_
  refine lv_iload_n hx hb dX8_countRows_10 rfl (lv_at hl 0 rfl) ?_
  have hPc := hP.sub (ws' := [(h0, .inr (8, [.ref sn, .ref sw, .ref ss])), (ss, .inl (cI, 4, .inl (fun _ => (-1))))]) [0, 1] rfl
  have hDc := hD.sub (ws' := [(h0, .inr (8, [.ref sn, .ref sw, .ref ss])), (ss, .inl (cI, 4, .inl (fun _ => (-1))))]) [0, 1] (by decide) rfl
  have hKc := hK.sub (tys' := [(cI, .int)]) [0] rfl
  have hFc := va_free (wc := [(h0, .inr (8, [.ref sn, .ref sw, .ref ss])), (ss, .inl (cI, 4, .inl (fun _ => (-1))))]) hD hS hA [0, 1] rfl
  refine va_calli (va_runV (As := [.int 2]) (rest := []) ⟨hx, hb, hml, hown, hts⟩ (c_X8_hasRow_0 l dC dI cI h0 sn sw ss 2 (by unfold vp_in; decide) H.size) (cwV 1 hts g_c_X8_countRows_0_0 rfl rfl rfl (by decide +kernel) ⟨Nat.le_of_ble_eq_true rfl, Nat.le_of_ble_eq_true rfl⟩) ⟨fun a U g mk q => by obtain ⟨q0, q1, qP, qK, qD⟩ := q; exact ⟨q0, q1, qP, va_K.moved (u := U) (U := U.calling g mk a) (Vm.Alike.refl U.vm) qK, qD⟩, va_recv hKc hPc (ci := 8) (q0 := 0) rfl rfl, fun U hU hW => ⟨rfl, by rw [hU], by rw [hU]; exact hPc, va_K.moved hW.alike hKc, hDc.weaken (fun _ _ _ _ => trivial)⟩⟩ rfl rfl hl.1 rfl (lv_room (Nat.le_of_ble_eq_true rfl)) dX8_countRows_11 ⟨Nat.le_of_ble_eq_true rfl, Nat.le_of_ble_eq_true rfl⟩) hS (fun q _ h => hFc q h) hFc (fun r_8 u t H1 locs ht hvm hw hB hz1 hk1 hS => ?_)
  obtain ⟨hP1, hK1, hD1⟩ := hB
  rw [ht] at hP1
  try dsimp only at hw
  obtain ⟨hP, hD⟩ := va_join (wr := []) (w1 := [(h0, .inr (8, [.ref sn, .ref sw, .ref ss])), (ss, .inl (cI, 4, .inl (fun _ => (-1))))]) hP hD [0, 1] [] rfl rfl (by decide) (by decide) hk1 hFc hP1 hD1
  clear hPc hDc hKc hFc hk1 hP1 hK1 hD1
  generalize H1 = H at hP hS ⊢
  have hP : va_P (dC, dI) vwCl [(h0, .inr (8, [.ref sn, .ref sw, .ref ss])), (ss, .inl (cI, 4, .inl (fun _ => (-1))))] H := hP
  have hD : va_D A [(h0, .inr (8, [.ref sn, .ref sw, .ref ss])), (ss, .inl (cI, 4, .inl (fun _ => (-1))))] := hD
  have er_8 : r_8 = 0 := hw
  refine wx_ti (y := 0) er_8 ?_
  refine lv_if_eq (tgt := 20) hx hb dX8_countRows_14 (by decide) (fun c_9 => ?_) (fun c_9 => absurd rfl c_9)
  refine lv_iinc (v := 3) (lv' := [(2, .int 3), (1, .int 0), (0, .ref h0)]) hx hb dX8_countRows_20 hl (k := 0) rfl (by decide) (by decide) rfl (fun ls hl => ?_)
  refine lv_goto (tgt := 4) hx hb dX8_countRows_23 (by decide) ?_
  refine lv_iload_n hx hb dX8_countRows_4 rfl (lv_at hl 0 rfl) ?_
  refine lv_iconst (v := 4) hx hb dX8_countRows_5 (by decide) ?_
  refine lv_icmp_ge (tgt := 26) hx hb dX8_countRows_6 (by decide) (fun c_10 => absurd c_10 (by decide)) (fun c_10 => ?_)
  refine lv_aload_n hx hb dX8_countRows_9 rfl (lv_at hl 2 rfl) ?_
  refine lv_iload_n hx hb dX8_countRows_10 rfl (lv_at hl 0 rfl) ?_
  have hPc := hP.sub (ws' := [(h0, .inr (8, [.ref sn, .ref sw, .ref ss])), (ss, .inl (cI, 4, .inl (fun _ => (-1))))]) [0, 1] rfl
  have hDc := hD.sub (ws' := [(h0, .inr (8, [.ref sn, .ref sw, .ref ss])), (ss, .inl (cI, 4, .inl (fun _ => (-1))))]) [0, 1] (by decide) rfl
  have hKc := hK.sub (tys' := [(cI, .int)]) [0] rfl
  have hFc := va_free (wc := [(h0, .inr (8, [.ref sn, .ref sw, .ref ss])), (ss, .inl (cI, 4, .inl (fun _ => (-1))))]) hD hS hA [0, 1] rfl
  refine va_calli (va_runV (As := [.int 3]) (rest := []) ⟨hx, hb, hml, hown, hts⟩ (c_X8_hasRow_0 l dC dI cI h0 sn sw ss 3 (by unfold vp_in; decide) H.size) (cwV 1 hts g_c_X8_countRows_0_0 rfl rfl rfl (by decide +kernel) ⟨Nat.le_of_ble_eq_true rfl, Nat.le_of_ble_eq_true rfl⟩) ⟨fun a U g mk q => by obtain ⟨q0, q1, qP, qK, qD⟩ := q; exact ⟨q0, q1, qP, va_K.moved (u := U) (U := U.calling g mk a) (Vm.Alike.refl U.vm) qK, qD⟩, va_recv hKc hPc (ci := 8) (q0 := 0) rfl rfl, fun U hU hW => ⟨rfl, by rw [hU], by rw [hU]; exact hPc, va_K.moved hW.alike hKc, hDc.weaken (fun _ _ _ _ => trivial)⟩⟩ rfl rfl hl.1 rfl (lv_room (Nat.le_of_ble_eq_true rfl)) dX8_countRows_11 ⟨Nat.le_of_ble_eq_true rfl, Nat.le_of_ble_eq_true rfl⟩) hS (fun q _ h => hFc q h) hFc (fun r_11 u t H1 locs ht hvm hw hB hz1 hk1 hS => ?_)
  obtain ⟨hP1, hK1, hD1⟩ := hB
  rw [ht] at hP1
  try dsimp only at hw
  obtain ⟨hP, hD⟩ := va_join (wr := []) (w1 := [(h0, .inr (8, [.ref sn, .ref sw, .ref ss])), (ss, .inl (cI, 4, .inl (fun _ => (-1))))]) hP hD [0, 1] [] rfl rfl (by decide) (by decide) hk1 hFc hP1 hD1
  clear hPc hDc hKc hFc hk1 hP1 hK1 hD1
  generalize H1 = H at hP hS ⊢
  have hP : va_P (dC, dI) vwCl [(h0, .inr (8, [.ref sn, .ref sw, .ref ss])), (ss, .inl (cI, 4, .inl (fun _ => (-1))))] H := hP
  have hD : va_D A [(h0, .inr (8, [.ref sn, .ref sw, .ref ss])), (ss, .inl (cI, 4, .inl (fun _ => (-1))))] := hD
  have er_11 : r_11 = 0 := hw
  refine wx_ti (y := 0) er_11 ?_
  refine lv_if_eq (tgt := 20) hx hb dX8_countRows_14 (by decide) (fun c_12 => ?_) (fun c_12 => absurd rfl c_12)
  refine lv_iinc (v := 4) (lv' := [(2, .int 4), (1, .int 0), (0, .ref h0)]) hx hb dX8_countRows_20 hl (k := 0) rfl (by decide) (by decide) rfl (fun ls hl => ?_)
  refine lv_goto (tgt := 4) hx hb dX8_countRows_23 (by decide) ?_
  refine lv_iload_n hx hb dX8_countRows_4 rfl (lv_at hl 0 rfl) ?_
  refine lv_iconst (v := 4) hx hb dX8_countRows_5 (by decide) ?_
  refine lv_icmp_ge (tgt := 26) hx hb dX8_countRows_6 (by decide) (fun c_13 => ?_) (fun c_13 => absurd (by decide) c_13)
  refine lv_iload_n hx hb dX8_countRows_26 rfl (lv_at hl 1 rfl) ?_
  have hP9 := hP.sub (ws' := [(h0, .inr (8, [.ref sn, .ref sw, .ref ss])), (ss, .inl (cI, 4, .inl (fun _ => (-1))))]) [0, 1] rfl
  have hD9 := hD.sub (ws' := [(h0, .inr (8, [.ref sn, .ref sw, .ref ss])), (ss, .inl (cI, 4, .inl (fun _ => (-1))))]) [0, 1] (by decide) rfl
  exact W.iret (v := 0) hx hb hr (fun t ht hW => ⟨⟨0, (), rfl, rfl, by rw [ht]; exact hP9, va_K.moved hW.alike hK, hD9⟩, hS.F ht⟩) hS.2.2 dX8_countRows_27

theorem dX11_count_0 : decode cX11_count 0 = .ok (.iload_n 1, 1) := by decide +kernel
theorem dX11_count_1 : decode cX11_count 1 = .ok (.tableswitch 141 0 9 #[55, 63, 71, 79, 90, 101, 109, 117, 125, 133], 55) := by decide +kernel
theorem dX11_count_56 : decode cX11_count 56 = .ok (.aload_n 0, 1) := by decide +kernel
theorem dX11_count_57 : decode cX11_count 57 = .ok (.getfield 23, 3) := by decide +kernel
theorem dX11_count_60 : decode cX11_count 60 = .ok (.getfield 270, 3) := by decide +kernel
theorem dX11_count_63 : decode cX11_count 63 = .ok (.ireturn, 1) := by decide +kernel
theorem dX11_count_64 : decode cX11_count 64 = .ok (.aload_n 0, 1) := by decide +kernel
theorem dX11_count_65 : decode cX11_count 65 = .ok (.getfield 23, 3) := by decide +kernel
theorem dX11_count_68 : decode cX11_count 68 = .ok (.getfield 378, 3) := by decide +kernel
theorem dX11_count_71 : decode cX11_count 71 = .ok (.ireturn, 1) := by decide +kernel
theorem dX11_count_72 : decode cX11_count 72 = .ok (.aload_n 0, 1) := by decide +kernel
theorem dX11_count_73 : decode cX11_count 73 = .ok (.getfield 23, 3) := by decide +kernel
theorem dX11_count_76 : decode cX11_count 76 = .ok (.getfield 381, 3) := by decide +kernel
theorem dX11_count_79 : decode cX11_count 79 = .ok (.ireturn, 1) := by decide +kernel
theorem dX11_count_80 : decode cX11_count 80 = .ok (.aload_n 0, 1) := by decide +kernel
theorem dX11_count_81 : decode cX11_count 81 = .ok (.getfield 23, 3) := by decide +kernel
theorem dX11_count_84 : decode cX11_count 84 = .ok (.invokevirtual 384, 3) := by decide +kernel
theorem dX11_count_87 : decode cX11_count 87 = .ok (.invokestatic 282, 3) := by decide +kernel
theorem dX11_count_90 : decode cX11_count 90 = .ok (.ireturn, 1) := by decide +kernel
theorem dX11_count_91 : decode cX11_count 91 = .ok (.aload_n 0, 1) := by decide +kernel
theorem dX11_count_92 : decode cX11_count 92 = .ok (.getfield 23, 3) := by decide +kernel
theorem dX11_count_95 : decode cX11_count 95 = .ok (.invokevirtual 387, 3) := by decide +kernel
theorem dX11_count_98 : decode cX11_count 98 = .ok (.invokestatic 282, 3) := by decide +kernel
theorem dX11_count_101 : decode cX11_count 101 = .ok (.ireturn, 1) := by decide +kernel
theorem dX11_count_102 : decode cX11_count 102 = .ok (.aload_n 0, 1) := by decide +kernel
theorem dX11_count_103 : decode cX11_count 103 = .ok (.getfield 23, 3) := by decide +kernel
theorem dX11_count_106 : decode cX11_count 106 = .ok (.getfield 390, 3) := by decide +kernel
theorem dX11_count_109 : decode cX11_count 109 = .ok (.ireturn, 1) := by decide +kernel
theorem dX11_count_110 : decode cX11_count 110 = .ok (.aload_n 0, 1) := by decide +kernel
theorem dX11_count_111 : decode cX11_count 111 = .ok (.getfield 29, 3) := by decide +kernel
theorem dX11_count_114 : decode cX11_count 114 = .ok (.getfield 178, 3) := by decide +kernel
theorem dX11_count_117 : decode cX11_count 117 = .ok (.ireturn, 1) := by decide +kernel
theorem dX11_count_118 : decode cX11_count 118 = .ok (.aload_n 0, 1) := by decide +kernel
theorem dX11_count_119 : decode cX11_count 119 = .ok (.getfield 23, 3) := by decide +kernel
theorem dX11_count_122 : decode cX11_count 122 = .ok (.getfield 95, 3) := by decide +kernel
theorem dX11_count_125 : decode cX11_count 125 = .ok (.ireturn, 1) := by decide +kernel
theorem dX11_count_126 : decode cX11_count 126 = .ok (.aload_n 0, 1) := by decide +kernel
theorem dX11_count_127 : decode cX11_count 127 = .ok (.getfield 10, 3) := by decide +kernel
theorem dX11_count_130 : decode cX11_count 130 = .ok (.getfield 71, 3) := by decide +kernel
theorem dX11_count_133 : decode cX11_count 133 = .ok (.ireturn, 1) := by decide +kernel
theorem dX11_count_134 : decode cX11_count 134 = .ok (.aload_n 0, 1) := by decide +kernel
theorem dX11_count_135 : decode cX11_count 135 = .ok (.getfield 55, 3) := by decide +kernel
theorem dX11_count_138 : decode cX11_count 138 = .ok (.invokevirtual 393, 3) := by decide +kernel
theorem dX11_count_141 : decode cX11_count 141 = .ok (.ireturn, 1) := by decide +kernel
theorem dX11_count_142 : decode cX11_count 142 = .ok (.iconst (-1), 1) := by decide +kernel
theorem dX11_count_143 : decode cX11_count 143 = .ok (.ireturn, 1) := by decide +kernel
def w_c_X11_count_0 : List Cond := .code yX11_count cX11_count 2 (some .int) :: ([.fieldLink RX11 23 "OnePassport" "family" "LOnePassport$Family;", .fieldLink RX11 270 "OnePassport$Family" "persons" "I", .fieldLink RX11 378 "OnePassport$Family" "posts" "I", .fieldLink RX11 381 "OnePassport$Family" "loaf" "I", .methodLink RX11 384 yX0_children, .instanceMethod yX0_children, .selects RX0 yX0_children yX0_children, .initialized RX0, .code yX0_children cX0_children 1 (some .int), .fieldLink RX0 18 "OnePassport$Family" "child" "[I", .methodLink RX0 85 yX0_bitsOf, .instanceMethod yX0_bitsOf, .selects RX0 yX0_bitsOf yX0_bitsOf, .code yX0_bitsOf cX0_bitsOf 4 (some .int), .fieldLink RX0 43 "OnePassport$Family" "persons" "I", .methodLink RX11 282 yJ6_bitCount_0f7a4, .static yJ6_bitCount_0f7a4, .initialized RJ6, .code yJ6_bitCount_0f7a4 cJ6_bitCount_0f7a4 1 (some .int), .constant RJ6 265 (1431655765), .constant RJ6 266 (858993459), .constant RJ6 267 (252645135), .methodLink RX11 387 yX0_staying, .instanceMethod yX0_staying, .selects RX0 yX0_staying yX0_staying, .code yX0_staying cX0_staying 1 (some .int), .fieldLink RX0 21 "OnePassport$Family" "stays" "[I", .fieldLink RX11 390 "OnePassport$Family" "compare" "I", .fieldLink RX11 29 "OnePassport" "walk" "LOnePassport$Walk;", .fieldLink RX11 178 "OnePassport$Walk" "count" "I", .fieldLink RX11 95 "OnePassport$Family" "lines" "I", .fieldLink RX11 10 "OnePassport" "tape" "LOnePassport$Tape;", .fieldLink RX11 71 "OnePassport$Tape" "length" "I", .fieldLink RX11 55 "OnePassport" "slots" "LOnePassport$Slots;", .methodLink RX11 393 yX8_countRows, .instanceMethod yX8_countRows, .selects RX8 yX8_countRows yX8_countRows, .initialized RX8, .code yX8_countRows cX8_countRows 3 (some .int), .methodLink RX8 32 yX8_hasRow, .instanceMethod yX8_hasRow, .selects RX8 yX8_hasRow yX8_hasRow, .code yX8_hasRow cX8_hasRow 2 (some .boolean), .fieldLink RX8 20 "OnePassport$Slots" "size" "[I"] ++ wsX110 ++ wsX00 ++ wsX100 ++ wsX90 ++ wsX80)
theorem i_c_X11_count_0_X11 : ∀ w ∈ wsX110, w ∈ w_c_X11_count_0 := fun _ h => List.mem_cons_of_mem _ (List.mem_append_left _ (List.mem_append_left _ (List.mem_append_left _ (List.mem_append_left _ (List.mem_append_right _ h)))))
theorem i_c_X11_count_0_X0 : ∀ w ∈ wsX00, w ∈ w_c_X11_count_0 := fun _ h => List.mem_cons_of_mem _ (List.mem_append_left _ (List.mem_append_left _ (List.mem_append_left _ (List.mem_append_right _ h))))
theorem i_c_X11_count_0_X10 : ∀ w ∈ wsX100, w ∈ w_c_X11_count_0 := fun _ h => List.mem_cons_of_mem _ (List.mem_append_left _ (List.mem_append_left _ (List.mem_append_right _ h)))
theorem i_c_X11_count_0_X9 : ∀ w ∈ wsX90, w ∈ w_c_X11_count_0 := fun _ h => List.mem_cons_of_mem _ (List.mem_append_left _ (List.mem_append_right _ h))
theorem i_c_X11_count_0_X8 : ∀ w ∈ wsX80, w ∈ w_c_X11_count_0 := fun _ h => List.mem_cons_of_mem _ (List.mem_append_right _ h)
set_option maxRecDepth 100000 in
theorem g_c_X11_count_0_0 : GoodIn w_c_X11_count_0 (wsV RX11 384 RX0 yX0_children w_c_X0_children_0) := goodIn_of _ (by decide +kernel)
set_option maxRecDepth 100000 in
theorem g_c_X11_count_0_1 : GoodIn w_c_X11_count_0 (va_wsS RX11 282 yJ6_bitCount_0f7a4 w_c_bitCount_0) := goodIn_of _ (by decide +kernel)
set_option maxRecDepth 100000 in
theorem g_c_X11_count_0_2 : GoodIn w_c_X11_count_0 (wsV RX11 387 RX0 yX0_staying w_c_X0_staying_0) := goodIn_of _ (by decide +kernel)
set_option maxRecDepth 100000 in
theorem g_c_X11_count_0_3 : GoodIn w_c_X11_count_0 (wsV RX11 393 RX8 yX8_countRows w_c_X8_countRows_0) := goodIn_of _ (by decide +kernel)
set_option maxHeartbeats 4000000 in
set_option maxRecDepth 100000 in
theorem c_X11_count_0 (l : Launch) (dC : Nat → ClassId) (dI : Nat → Nat → Nat) (cI : ClassId) (h0 : Nat) (x0 : Nat) (x1 : Nat) (x2 : Nat) (x3 : Nat) (x4 : Nat) (x5 : Nat) (x6 : Nat) (x7 : Nat) (x8 : Nat) (x9 : Nat) (x10 : Nat) (tb : Nat) (f5 : Nat) (f6 : Nat) (f7 : Nat) (f8 : Nat) (f9 : Nat) (f10 : Nat) (f11 : Nat) (w0 : Nat) (w1 : Nat) (w2 : Nat) (sn : Nat) (sw : Nat) (ss : Nat) (p0 : Int32) (sz : Nat) : Met l yX11_count w_c_X11_count_0 ({ frames := 2, cells := 0, slots := 0, locals := 43 }) (va_Pc [.ref h0, .int p0] (fun U => U.heap.size = sz ∧ va_P (dC, dI) vwCl [(h0, .inr (11, [.ref x0, .ref x1, .ref x2, .ref x3, .ref x4, .ref x5, .ref x6, .ref x7, .ref x8, .ref x9, .ref x10])), (x0, .inr (9, [.ref tb, .int 0, .int 0, .int (-1), .int 0, .int 0, .int 0])), (x2, .inr (0, [.int 0, .int 0, .int 0, .int 0, .int 0, .ref f5, .ref f6, .ref f7, .ref f8, .ref f9, .ref f10, .ref f11])), (x3, .inr (10, [.ref w0, .ref w1, .ref w2, .int 0, .int 0, .int 0, .int 0, .int 0, .int 1])), (x7, .inr (8, [.ref sn, .ref sw, .ref ss])), (ss, .inl (cI, 4, .inl (fun _ => (-1))))] U.heap ∧ va_K (dC, dI) vwCl [(cI, .int)] U ∧ va_D (fun _ => True) [(h0, .inr (11, [.ref x0, .ref x1, .ref x2, .ref x3, .ref x4, .ref x5, .ref x6, .ref x7, .ref x8, .ref x9, .ref x10])), (x0, .inr (9, [.ref tb, .int 0, .int 0, .int (-1), .int 0, .int 0, .int 0])), (x2, .inr (0, [.int 0, .int 0, .int 0, .int 0, .int 0, .ref f5, .ref f6, .ref f7, .ref f8, .ref f9, .ref f10, .ref f11])), (x3, .inr (10, [.ref w0, .ref w1, .ref w2, .int 0, .int 0, .int 0, .int 0, .int 0, .int 1])), (x7, .inr (8, [.ref sn, .ref sw, .ref ss])), (ss, .inl (cI, 4, .inl (fun _ => (-1))))])) (va_Qi (fun (r : Int32) (_ : Unit) => r = (if 0 ≤ p0.toInt ∧ p0.toInt ≤ 9 then 0 else (-1))) (fun (_ : Unit) (t : State) => va_P (dC, dI) vwCl [(h0, .inr (11, [.ref x0, .ref x1, .ref x2, .ref x3, .ref x4, .ref x5, .ref x6, .ref x7, .ref x8, .ref x9, .ref x10])), (x0, .inr (9, [.ref tb, .int 0, .int 0, .int (-1), .int 0, .int 0, .int 0])), (x2, .inr (0, [.int 0, .int 0, .int 0, .int 0, .int 0, .ref f5, .ref f6, .ref f7, .ref f8, .ref f9, .ref f10, .ref f11])), (x3, .inr (10, [.ref w0, .ref w1, .ref w2, .int 0, .int 0, .int 0, .int 0, .int 0, .int 1])), (x7, .inr (8, [.ref sn, .ref sw, .ref ss])), (ss, .inl (cI, 4, .inl (fun _ => (-1))))] t.heap ∧ va_K (dC, dI) vwCl [(cI, .int)] t ∧ va_D (va_A [(h0, .inr (11, [.ref x0, .ref x1, .ref x2, .ref x3, .ref x4, .ref x5, .ref x6, .ref x7, .ref x8, .ref x9, .ref x10])), (x0, .inr (9, [.ref tb, .int 0, .int 0, .int (-1), .int 0, .int 0, .int 0])), (x2, .inr (0, [.int 0, .int 0, .int 0, .int 0, .int 0, .ref f5, .ref f6, .ref f7, .ref f8, .ref f9, .ref f10, .ref f11])), (x3, .inr (10, [.ref w0, .ref w1, .ref w2, .int 0, .int 0, .int 0, .int 0, .int 0, .int 1])), (x7, .inr (8, [.ref sn, .ref sw, .ref ss])), (ss, .inl (cI, 4, .inl (fun _ => (-1))))] sz) [(h0, .inr (11, [.ref x0, .ref x1, .ref x2, .ref x3, .ref x4, .ref x5, .ref x6, .ref x7, .ref x8, .ref x9, .ref x10])), (x0, .inr (9, [.ref tb, .int 0, .int 0, .int (-1), .int 0, .int 0, .int 0])), (x2, .inr (0, [.int 0, .int 0, .int 0, .int 0, .int 0, .ref f5, .ref f6, .ref f7, .ref f8, .ref f9, .ref f10, .ref f11])), (x3, .inr (10, [.ref w0, .ref w1, .ref w2, .int 0, .int 0, .int 0, .int 0, .int 0, .int 1])), (x7, .inr (8, [.ref sn, .ref sw, .ref ss])), (ss, .inl (cI, 4, .inl (fun _ => (-1))))]) (va_A [(h0, .inr (11, [.ref x0, .ref x1, .ref x2, .ref x3, .ref x4, .ref x5, .ref x6, .ref x7, .ref x8, .ref x9, .ref x10])), (x0, .inr (9, [.ref tb, .int 0, .int 0, .int (-1), .int 0, .int 0, .int 0])), (x2, .inr (0, [.int 0, .int 0, .int 0, .int 0, .int 0, .ref f5, .ref f6, .ref f7, .ref f8, .ref f9, .ref f10, .ref f11])), (x3, .inr (10, [.ref w0, .ref w1, .ref w2, .int 0, .int 0, .int 0, .int 0, .int 0, .int 1])), (x7, .inr (8, [.ref sn, .ref sw, .ref ss])), (ss, .inl (cI, 4, .inl (fun _ => (-1))))] sz)) 0 0 (va_A [(h0, .inr (11, [.ref x0, .ref x1, .ref x2, .ref x3, .ref x4, .ref x5, .ref x6, .ref x7, .ref x8, .ref x9, .ref x10])), (x0, .inr (9, [.ref tb, .int 0, .int 0, .int (-1), .int 0, .int 0, .int 0])), (x2, .inr (0, [.int 0, .int 0, .int 0, .int 0, .int 0, .ref f5, .ref f6, .ref f7, .ref f8, .ref f9, .ref f10, .ref f11])), (x3, .inr (10, [.ref w0, .ref w1, .ref w2, .int 0, .int 0, .int 0, .int 0, .int 0, .int 1])), (x7, .inr (8, [.ref sn, .ref sw, .ref ss])), (ss, .inl (cI, 4, .inl (fun _ => (-1))))] sz) := by
  refine Met.ofW (cc := cX11_count) (maxL := 2) (ret := (some .int)) (by decide) rfl ?_
  intro p e s m args below meth c s₁ B hml hv
  obtain ⟨rfl, hsz, hP, hK, hD0⟩ := hv
  have hx := B.exec
  have hb := B.bytes
  have hr := B.returns
  have hts := atoms_spec (ws := w_c_X11_count_0) B.pre
  have hown : s.vm.findClass RX11 = some m.cls := findClass_of_methodNamed B.named
  have hlocks := B.notSynchronized
  subst hsz
  have hD := hD0.self (sz := s.heap.size)
  generalize hAe : va_A [(h0, .inr (11, [.ref x0, .ref x1, .ref x2, .ref x3, .ref x4, .ref x5, .ref x6, .ref x7, .ref x8, .ref x9, .ref x10])), (x0, .inr (9, [.ref tb, .int 0, .int 0, .int (-1), .int 0, .int 0, .int 0])), (x2, .inr (0, [.int 0, .int 0, .int 0, .int 0, .int 0, .ref f5, .ref f6, .ref f7, .ref f8, .ref f9, .ref f10, .ref f11])), (x3, .inr (10, [.ref w0, .ref w1, .ref w2, .int 0, .int 0, .int 0, .int 0, .int 0, .int 1])), (x7, .inr (8, [.ref sn, .ref sw, .ref ss])), (ss, .inl (cI, 4, .inl (fun _ => (-1))))] s.heap.size = A at hD ⊢
  have hA : ∀ q : Nat, s.heap.size ≤ q → A q := fun q h => by rw [← hAe]; exact Or.inr h
  have hS : va_S A s.heap s.heap [] := va_S.rf
  have hP : va_P (dC, dI) vwCl [(h0, .inr (11, [.ref x0, .ref x1, .ref x2, .ref x3, .ref x4, .ref x5, .ref x6, .ref x7, .ref x8, .ref x9, .ref x10])), (x0, .inr (9, [.ref tb, .int 0, .int 0, .int (-1), .int 0, .int 0, .int 0])), (x2, .inr (0, [.int 0, .int 0, .int 0, .int 0, .int 0, .ref f5, .ref f6, .ref f7, .ref f8, .ref f9, .ref f10, .ref f11])), (x3, .inr (10, [.ref w0, .ref w1, .ref w2, .int 0, .int 0, .int 0, .int 0, .int 0, .int 1])), (x7, .inr (8, [.ref sn, .ref sw, .ref ss])), (ss, .inl (cI, 4, .inl (fun _ => (-1))))] s.heap := hP
  have hl := lv_entry ([.ref h0, .int p0]) (n := 2) (Nat.le_of_ble_eq_true rfl)
  rw [lg_entry_eq]
  generalize (lg_sl ([.ref h0, .int p0]) ++ List.replicate (2 - (lg_sl ([.ref h0, .int p0])).length) Slot.unset).toArray = ls at hl ⊢
  have hl : lv_has ls 2 [(0, .ref h0), (1, .int p0)] := hl
  refine lv_iload_n hx hb dX11_count_0 rfl (lv_at hl 1 rfl) ?_
  by_cases c_1 : p0 = 0
  · subst c_1
    refine lv_tableIn (off := 55) (tgt := 56) hx hb dX11_count_1 (by decide) (by decide) (by decide) (by decide) ?_
    refine lv_aload_n hx hb dX11_count_56 rfl (lv_at hl 0 rfl) ?_
    refine va_get (D := (dC, dI)) (ci := 11) (v := .ref x2) (C := RX11) (T := TX11) (N := 11) hx hb hts i_c_X11_count_0_X11 hown hK hP 0 rfl rfl 2 (by decide) (hts (.fieldLink RX11 23 "OnePassport" "family" "LOnePassport$Family;") (List.mem_of_getElem? (i := 1) rfl)) (fun _ h9 => h9) rfl dX11_count_57 ?_
    refine va_get (D := (dC, dI)) (ci := 0) (v := .int 0) (C := RX0) (T := TX0) (N := 12) hx hb hts i_c_X11_count_0_X0 hown hK hP 2 rfl rfl 3 (by decide) (hts (.fieldLink RX11 270 "OnePassport$Family" "persons" "I") (List.mem_of_getElem? (i := 2) rfl)) (fun _ h9 => h9) rfl dX11_count_60 ?_
    have hP9 := hP.sub (ws' := [(h0, .inr (11, [.ref x0, .ref x1, .ref x2, .ref x3, .ref x4, .ref x5, .ref x6, .ref x7, .ref x8, .ref x9, .ref x10])), (x0, .inr (9, [.ref tb, .int 0, .int 0, .int (-1), .int 0, .int 0, .int 0])), (x2, .inr (0, [.int 0, .int 0, .int 0, .int 0, .int 0, .ref f5, .ref f6, .ref f7, .ref f8, .ref f9, .ref f10, .ref f11])), (x3, .inr (10, [.ref w0, .ref w1, .ref w2, .int 0, .int 0, .int 0, .int 0, .int 0, .int 1])), (x7, .inr (8, [.ref sn, .ref sw, .ref ss])), (ss, .inl (cI, 4, .inl (fun _ => (-1))))]) [0, 1, 2, 3, 4, 5] rfl
    have hD9 := hD.sub (ws' := [(h0, .inr (11, [.ref x0, .ref x1, .ref x2, .ref x3, .ref x4, .ref x5, .ref x6, .ref x7, .ref x8, .ref x9, .ref x10])), (x0, .inr (9, [.ref tb, .int 0, .int 0, .int (-1), .int 0, .int 0, .int 0])), (x2, .inr (0, [.int 0, .int 0, .int 0, .int 0, .int 0, .ref f5, .ref f6, .ref f7, .ref f8, .ref f9, .ref f10, .ref f11])), (x3, .inr (10, [.ref w0, .ref w1, .ref w2, .int 0, .int 0, .int 0, .int 0, .int 0, .int 1])), (x7, .inr (8, [.ref sn, .ref sw, .ref ss])), (ss, .inl (cI, 4, .inl (fun _ => (-1))))]) [0, 1, 2, 3, 4, 5] (by decide) rfl
    exact W.iret (v := 0) hx hb hr (fun t ht hW => ⟨⟨0, (), rfl, (by decide), by rw [ht]; exact hP9, va_K.moved hW.alike hK, hD9⟩, hS.F ht⟩) hS.2.2 dX11_count_63
  by_cases c_2 : p0 = 1
  · subst c_2
    refine lv_tableIn (off := 63) (tgt := 64) hx hb dX11_count_1 (by decide) (by decide) (by decide) (by decide) ?_
    refine lv_aload_n hx hb dX11_count_64 rfl (lv_at hl 0 rfl) ?_
    refine va_get (D := (dC, dI)) (ci := 11) (v := .ref x2) (C := RX11) (T := TX11) (N := 11) hx hb hts i_c_X11_count_0_X11 hown hK hP 0 rfl rfl 2 (by decide) (hts (.fieldLink RX11 23 "OnePassport" "family" "LOnePassport$Family;") (List.mem_of_getElem? (i := 1) rfl)) (fun _ h9 => h9) rfl dX11_count_65 ?_
    refine va_get (D := (dC, dI)) (ci := 0) (v := .int 0) (C := RX0) (T := TX0) (N := 12) hx hb hts i_c_X11_count_0_X0 hown hK hP 2 rfl rfl 4 (by decide) (hts (.fieldLink RX11 378 "OnePassport$Family" "posts" "I") (List.mem_of_getElem? (i := 3) rfl)) (fun _ h9 => h9) rfl dX11_count_68 ?_
    have hP9 := hP.sub (ws' := [(h0, .inr (11, [.ref x0, .ref x1, .ref x2, .ref x3, .ref x4, .ref x5, .ref x6, .ref x7, .ref x8, .ref x9, .ref x10])), (x0, .inr (9, [.ref tb, .int 0, .int 0, .int (-1), .int 0, .int 0, .int 0])), (x2, .inr (0, [.int 0, .int 0, .int 0, .int 0, .int 0, .ref f5, .ref f6, .ref f7, .ref f8, .ref f9, .ref f10, .ref f11])), (x3, .inr (10, [.ref w0, .ref w1, .ref w2, .int 0, .int 0, .int 0, .int 0, .int 0, .int 1])), (x7, .inr (8, [.ref sn, .ref sw, .ref ss])), (ss, .inl (cI, 4, .inl (fun _ => (-1))))]) [0, 1, 2, 3, 4, 5] rfl
    have hD9 := hD.sub (ws' := [(h0, .inr (11, [.ref x0, .ref x1, .ref x2, .ref x3, .ref x4, .ref x5, .ref x6, .ref x7, .ref x8, .ref x9, .ref x10])), (x0, .inr (9, [.ref tb, .int 0, .int 0, .int (-1), .int 0, .int 0, .int 0])), (x2, .inr (0, [.int 0, .int 0, .int 0, .int 0, .int 0, .ref f5, .ref f6, .ref f7, .ref f8, .ref f9, .ref f10, .ref f11])), (x3, .inr (10, [.ref w0, .ref w1, .ref w2, .int 0, .int 0, .int 0, .int 0, .int 0, .int 1])), (x7, .inr (8, [.ref sn, .ref sw, .ref ss])), (ss, .inl (cI, 4, .inl (fun _ => (-1))))]) [0, 1, 2, 3, 4, 5] (by decide) rfl
    exact W.iret (v := 0) hx hb hr (fun t ht hW => ⟨⟨0, (), rfl, (by decide), by rw [ht]; exact hP9, va_K.moved hW.alike hK, hD9⟩, hS.F ht⟩) hS.2.2 dX11_count_71
  by_cases c_3 : p0 = 2
  · subst c_3
    refine lv_tableIn (off := 71) (tgt := 72) hx hb dX11_count_1 (by decide) (by decide) (by decide) (by decide) ?_
    refine lv_aload_n hx hb dX11_count_72 rfl (lv_at hl 0 rfl) ?_
    refine va_get (D := (dC, dI)) (ci := 11) (v := .ref x2) (C := RX11) (T := TX11) (N := 11) hx hb hts i_c_X11_count_0_X11 hown hK hP 0 rfl rfl 2 (by decide) (hts (.fieldLink RX11 23 "OnePassport" "family" "LOnePassport$Family;") (List.mem_of_getElem? (i := 1) rfl)) (fun _ h9 => h9) rfl dX11_count_73 ?_
    refine va_get (D := (dC, dI)) (ci := 0) (v := .int 0) (C := RX0) (T := TX0) (N := 12) hx hb hts i_c_X11_count_0_X0 hown hK hP 2 rfl rfl 1 (by decide) (hts (.fieldLink RX11 381 "OnePassport$Family" "loaf" "I") (List.mem_of_getElem? (i := 4) rfl)) (fun _ h9 => h9) rfl dX11_count_76 ?_
    have hP9 := hP.sub (ws' := [(h0, .inr (11, [.ref x0, .ref x1, .ref x2, .ref x3, .ref x4, .ref x5, .ref x6, .ref x7, .ref x8, .ref x9, .ref x10])), (x0, .inr (9, [.ref tb, .int 0, .int 0, .int (-1), .int 0, .int 0, .int 0])), (x2, .inr (0, [.int 0, .int 0, .int 0, .int 0, .int 0, .ref f5, .ref f6, .ref f7, .ref f8, .ref f9, .ref f10, .ref f11])), (x3, .inr (10, [.ref w0, .ref w1, .ref w2, .int 0, .int 0, .int 0, .int 0, .int 0, .int 1])), (x7, .inr (8, [.ref sn, .ref sw, .ref ss])), (ss, .inl (cI, 4, .inl (fun _ => (-1))))]) [0, 1, 2, 3, 4, 5] rfl
    have hD9 := hD.sub (ws' := [(h0, .inr (11, [.ref x0, .ref x1, .ref x2, .ref x3, .ref x4, .ref x5, .ref x6, .ref x7, .ref x8, .ref x9, .ref x10])), (x0, .inr (9, [.ref tb, .int 0, .int 0, .int (-1), .int 0, .int 0, .int 0])), (x2, .inr (0, [.int 0, .int 0, .int 0, .int 0, .int 0, .ref f5, .ref f6, .ref f7, .ref f8, .ref f9, .ref f10, .ref f11])), (x3, .inr (10, [.ref w0, .ref w1, .ref w2, .int 0, .int 0, .int 0, .int 0, .int 0, .int 1])), (x7, .inr (8, [.ref sn, .ref sw, .ref ss])), (ss, .inl (cI, 4, .inl (fun _ => (-1))))]) [0, 1, 2, 3, 4, 5] (by decide) rfl
    exact W.iret (v := 0) hx hb hr (fun t ht hW => ⟨⟨0, (), rfl, (by decide), by rw [ht]; exact hP9, va_K.moved hW.alike hK, hD9⟩, hS.F ht⟩) hS.2.2 dX11_count_79
  by_cases c_4 : p0 = 3
  · subst c_4
    refine lv_tableIn (off := 79) (tgt := 80) hx hb dX11_count_1 (by decide) (by decide) (by decide) (by decide) ?_
    refine lv_aload_n hx hb dX11_count_80 rfl (lv_at hl 0 rfl) ?_
    refine va_get (D := (dC, dI)) (ci := 11) (v := .ref x2) (C := RX11) (T := TX11) (N := 11) hx hb hts i_c_X11_count_0_X11 hown hK hP 0 rfl rfl 2 (by decide) (hts (.fieldLink RX11 23 "OnePassport" "family" "LOnePassport$Family;") (List.mem_of_getElem? (i := 1) rfl)) (fun _ h9 => h9) rfl dX11_count_81 ?_
    have hPc := hP.sub (ws' := [(x2, .inr (0, [.int 0, .int 0, .int 0, .int 0, .int 0, .ref f5, .ref f6, .ref f7, .ref f8, .ref f9, .ref f10, .ref f11]))]) [2] rfl
    have hDc := hD.sub (ws' := [(x2, .inr (0, [.int 0, .int 0, .int 0, .int 0, .int 0, .ref f5, .ref f6, .ref f7, .ref f8, .ref f9, .ref f10, .ref f11]))]) [2] (by decide) rfl
    have hKc := hK.sub (tys' := []) [] rfl
    have hFc := va_free (wc := [(x2, .inr (0, [.int 0, .int 0, .int 0, .int 0, .int 0, .ref f5, .ref f6, .ref f7, .ref f8, .ref f9, .ref f10, .ref f11]))]) hD hS hA [2] rfl
    refine va_calli (va_runV (As := []) (rest := []) ⟨hx, hb, hml, hown, hts⟩ (c_X0_children_0 l dC dI x2 f5 f6 f7 f8 f9 f10 f11 s.heap.size) (cwV 0 hts g_c_X11_count_0_0 rfl rfl rfl (by decide +kernel) ⟨Nat.le_of_ble_eq_true rfl, Nat.le_of_ble_eq_true rfl⟩) ⟨fun a U g mk q => by obtain ⟨q0, q1, qP, qK, qD⟩ := q; exact ⟨q0, q1, qP, va_K.moved (u := U) (U := U.calling g mk a) (Vm.Alike.refl U.vm) qK, qD⟩, va_recv hKc hPc (ci := 0) (q0 := 0) rfl rfl, fun U hU hW => ⟨rfl, by rw [hU], by rw [hU]; exact hPc, va_K.moved hW.alike hKc, hDc.weaken (fun _ _ _ _ => trivial)⟩⟩ rfl rfl hl.1 rfl (lv_room (Nat.le_of_ble_eq_true rfl)) dX11_count_84 ⟨Nat.le_of_ble_eq_true rfl, Nat.le_of_ble_eq_true rfl⟩) hS (fun q _ h => hFc q h) hFc (fun r_5 u t H1 locs ht hvm hw hB hz1 hk1 hS => ?_)
    obtain ⟨hP1, hK1, hD1⟩ := hB
    rw [ht] at hP1
    try dsimp only at hw
    obtain ⟨hP, hD⟩ := va_join (wr := [(h0, .inr (11, [.ref x0, .ref x1, .ref x2, .ref x3, .ref x4, .ref x5, .ref x6, .ref x7, .ref x8, .ref x9, .ref x10])), (x0, .inr (9, [.ref tb, .int 0, .int 0, .int (-1), .int 0, .int 0, .int 0])), (x3, .inr (10, [.ref w0, .ref w1, .ref w2, .int 0, .int 0, .int 0, .int 0, .int 0, .int 1])), (x7, .inr (8, [.ref sn, .ref sw, .ref ss])), (ss, .inl (cI, 4, .inl (fun _ => (-1))))]) (w1 := [(x2, .inr (0, [.int 0, .int 0, .int 0, .int 0, .int 0, .ref f5, .ref f6, .ref f7, .ref f8, .ref f9, .ref f10, .ref f11]))]) hP hD [2] [0, 1, 3, 4, 5] rfl rfl (by decide) (by decide) hk1 hFc hP1 hD1
    clear hPc hDc hKc hFc hk1 hP1 hK1 hD1
    generalize H1 = H at hP hS ⊢
    have hP : va_P (dC, dI) vwCl [(h0, .inr (11, [.ref x0, .ref x1, .ref x2, .ref x3, .ref x4, .ref x5, .ref x6, .ref x7, .ref x8, .ref x9, .ref x10])), (x0, .inr (9, [.ref tb, .int 0, .int 0, .int (-1), .int 0, .int 0, .int 0])), (x3, .inr (10, [.ref w0, .ref w1, .ref w2, .int 0, .int 0, .int 0, .int 0, .int 0, .int 1])), (x7, .inr (8, [.ref sn, .ref sw, .ref ss])), (ss, .inl (cI, 4, .inl (fun _ => (-1)))), (x2, .inr (0, [.int 0, .int 0, .int 0, .int 0, .int 0, .ref f5, .ref f6, .ref f7, .ref f8, .ref f9, .ref f10, .ref f11]))] H := hP
    have hD : va_D A [(h0, .inr (11, [.ref x0, .ref x1, .ref x2, .ref x3, .ref x4, .ref x5, .ref x6, .ref x7, .ref x8, .ref x9, .ref x10])), (x0, .inr (9, [.ref tb, .int 0, .int 0, .int (-1), .int 0, .int 0, .int 0])), (x3, .inr (10, [.ref w0, .ref w1, .ref w2, .int 0, .int 0, .int 0, .int 0, .int 0, .int 1])), (x7, .inr (8, [.ref sn, .ref sw, .ref ss])), (ss, .inl (cI, 4, .inl (fun _ => (-1)))), (x2, .inr (0, [.int 0, .int 0, .int 0, .int 0, .int 0, .ref f5, .ref f6, .ref f7, .ref f8, .ref f9, .ref f10, .ref f11]))] := hD
    have er_5 : r_5 = 0 := hw
    refine wx_ti (y := 0) er_5 ?_
    have hPc := hP.sub (ws' := []) [] rfl
    have hDc := hD.sub (ws' := []) [] (by decide) rfl
    have hKc := hK.sub (tys' := []) [] rfl
    have hFc := va_free (wc := []) hD hS hA [] rfl
    refine va_calli (va_runS (As := [.int 0]) (rest := []) ⟨hx, hb, hml, hown, hts⟩ (c_bitCount_0 l dC dI  H.size) (va_cwS 1 hts g_c_X11_count_0_1 rfl rfl rfl (by decide +kernel) ⟨Nat.le_of_ble_eq_true rfl, Nat.le_of_ble_eq_true rfl⟩) ⟨fun a U g mk q => by obtain ⟨q0, q1, qP, qK, qD⟩ := q; exact ⟨q0, q1, qP, va_K.moved (u := U) (U := U.calling g mk a) (Vm.Alike.refl U.vm) qK, qD⟩, fun U hU hW => ⟨rfl, by rw [hU], by rw [hU]; exact hPc, va_K.moved hW.alike hKc, hDc.weaken (fun _ _ _ _ => trivial)⟩⟩ rfl rfl hl.1 rfl (lv_room (Nat.le_of_ble_eq_true rfl)) dX11_count_87 ⟨Nat.le_of_ble_eq_true rfl, Nat.le_of_ble_eq_true rfl⟩) hS (fun q _ h => hFc q h) hFc (fun r_6 u t H1 locs ht hvm hw hB hz1 hk1 hS => ?_)
    obtain ⟨hP1, hK1, hD1⟩ := hB
    rw [ht] at hP1
    try dsimp only at hw
    obtain ⟨hP, hD⟩ := va_join (wr := [(h0, .inr (11, [.ref x0, .ref x1, .ref x2, .ref x3, .ref x4, .ref x5, .ref x6, .ref x7, .ref x8, .ref x9, .ref x10])), (x0, .inr (9, [.ref tb, .int 0, .int 0, .int (-1), .int 0, .int 0, .int 0])), (x3, .inr (10, [.ref w0, .ref w1, .ref w2, .int 0, .int 0, .int 0, .int 0, .int 0, .int 1])), (x7, .inr (8, [.ref sn, .ref sw, .ref ss])), (ss, .inl (cI, 4, .inl (fun _ => (-1)))), (x2, .inr (0, [.int 0, .int 0, .int 0, .int 0, .int 0, .ref f5, .ref f6, .ref f7, .ref f8, .ref f9, .ref f10, .ref f11]))]) (w1 := []) hP hD [] [0, 1, 2, 3, 4, 5] rfl rfl (by decide) (by decide) hk1 hFc hP1 hD1
    clear hPc hDc hKc hFc hk1 hP1 hK1 hD1
    generalize H1 = H at hP hS ⊢
    have hP : va_P (dC, dI) vwCl [(h0, .inr (11, [.ref x0, .ref x1, .ref x2, .ref x3, .ref x4, .ref x5, .ref x6, .ref x7, .ref x8, .ref x9, .ref x10])), (x0, .inr (9, [.ref tb, .int 0, .int 0, .int (-1), .int 0, .int 0, .int 0])), (x3, .inr (10, [.ref w0, .ref w1, .ref w2, .int 0, .int 0, .int 0, .int 0, .int 0, .int 1])), (x7, .inr (8, [.ref sn, .ref sw, .ref ss])), (ss, .inl (cI, 4, .inl (fun _ => (-1)))), (x2, .inr (0, [.int 0, .int 0, .int 0, .int 0, .int 0, .ref f5, .ref f6, .ref f7, .ref f8, .ref f9, .ref f10, .ref f11]))] H := hP
    have hD : va_D A [(h0, .inr (11, [.ref x0, .ref x1, .ref x2, .ref x3, .ref x4, .ref x5, .ref x6, .ref x7, .ref x8, .ref x9, .ref x10])), (x0, .inr (9, [.ref tb, .int 0, .int 0, .int (-1), .int 0, .int 0, .int 0])), (x3, .inr (10, [.ref w0, .ref w1, .ref w2, .int 0, .int 0, .int 0, .int 0, .int 0, .int 1])), (x7, .inr (8, [.ref sn, .ref sw, .ref ss])), (ss, .inl (cI, 4, .inl (fun _ => (-1)))), (x2, .inr (0, [.int 0, .int 0, .int 0, .int 0, .int 0, .ref f5, .ref f6, .ref f7, .ref f8, .ref f9, .ref f10, .ref f11]))] := hD
    have er_6 : r_6 = 0 := hw
    refine wx_ti (y := 0) er_6 ?_
    have hP9 := hP.sub (ws' := [(h0, .inr (11, [.ref x0, .ref x1, .ref x2, .ref x3, .ref x4, .ref x5, .ref x6, .ref x7, .ref x8, .ref x9, .ref x10])), (x0, .inr (9, [.ref tb, .int 0, .int 0, .int (-1), .int 0, .int 0, .int 0])), (x2, .inr (0, [.int 0, .int 0, .int 0, .int 0, .int 0, .ref f5, .ref f6, .ref f7, .ref f8, .ref f9, .ref f10, .ref f11])), (x3, .inr (10, [.ref w0, .ref w1, .ref w2, .int 0, .int 0, .int 0, .int 0, .int 0, .int 1])), (x7, .inr (8, [.ref sn, .ref sw, .ref ss])), (ss, .inl (cI, 4, .inl (fun _ => (-1))))]) [0, 1, 5, 2, 3, 4] rfl
    have hD9 := hD.sub (ws' := [(h0, .inr (11, [.ref x0, .ref x1, .ref x2, .ref x3, .ref x4, .ref x5, .ref x6, .ref x7, .ref x8, .ref x9, .ref x10])), (x0, .inr (9, [.ref tb, .int 0, .int 0, .int (-1), .int 0, .int 0, .int 0])), (x2, .inr (0, [.int 0, .int 0, .int 0, .int 0, .int 0, .ref f5, .ref f6, .ref f7, .ref f8, .ref f9, .ref f10, .ref f11])), (x3, .inr (10, [.ref w0, .ref w1, .ref w2, .int 0, .int 0, .int 0, .int 0, .int 0, .int 1])), (x7, .inr (8, [.ref sn, .ref sw, .ref ss])), (ss, .inl (cI, 4, .inl (fun _ => (-1))))]) [0, 1, 5, 2, 3, 4] (by decide) rfl
    exact W.iret (v := 0) hx hb hr (fun t ht hW => ⟨⟨0, (), rfl, (by decide), by rw [ht]; exact hP9, va_K.moved hW.alike hK, hD9⟩, hS.F ht⟩) hS.2.2 dX11_count_90
  by_cases c_7 : p0 = 4
  · subst c_7
    refine lv_tableIn (off := 90) (tgt := 91) hx hb dX11_count_1 (by decide) (by decide) (by decide) (by decide) ?_
    refine lv_aload_n hx hb dX11_count_91 rfl (lv_at hl 0 rfl) ?_
    refine va_get (D := (dC, dI)) (ci := 11) (v := .ref x2) (C := RX11) (T := TX11) (N := 11) hx hb hts i_c_X11_count_0_X11 hown hK hP 0 rfl rfl 2 (by decide) (hts (.fieldLink RX11 23 "OnePassport" "family" "LOnePassport$Family;") (List.mem_of_getElem? (i := 1) rfl)) (fun _ h9 => h9) rfl dX11_count_92 ?_
    have hPc := hP.sub (ws' := [(x2, .inr (0, [.int 0, .int 0, .int 0, .int 0, .int 0, .ref f5, .ref f6, .ref f7, .ref f8, .ref f9, .ref f10, .ref f11]))]) [2] rfl
    have hDc := hD.sub (ws' := [(x2, .inr (0, [.int 0, .int 0, .int 0, .int 0, .int 0, .ref f5, .ref f6, .ref f7, .ref f8, .ref f9, .ref f10, .ref f11]))]) [2] (by decide) rfl
    have hKc := hK.sub (tys' := []) [] rfl
    have hFc := va_free (wc := [(x2, .inr (0, [.int 0, .int 0, .int 0, .int 0, .int 0, .ref f5, .ref f6, .ref f7, .ref f8, .ref f9, .ref f10, .ref f11]))]) hD hS hA [2] rfl
    refine va_calli (va_runV (As := []) (rest := []) ⟨hx, hb, hml, hown, hts⟩ (c_X0_staying_0 l dC dI x2 f5 f6 f7 f8 f9 f10 f11 s.heap.size) (cwV 0 hts g_c_X11_count_0_2 rfl rfl rfl (by decide +kernel) ⟨Nat.le_of_ble_eq_true rfl, Nat.le_of_ble_eq_true rfl⟩) ⟨fun a U g mk q => by obtain ⟨q0, q1, qP, qK, qD⟩ := q; exact ⟨q0, q1, qP, va_K.moved (u := U) (U := U.calling g mk a) (Vm.Alike.refl U.vm) qK, qD⟩, va_recv hKc hPc (ci := 0) (q0 := 0) rfl rfl, fun U hU hW => ⟨rfl, by rw [hU], by rw [hU]; exact hPc, va_K.moved hW.alike hKc, hDc.weaken (fun _ _ _ _ => trivial)⟩⟩ rfl rfl hl.1 rfl (lv_room (Nat.le_of_ble_eq_true rfl)) dX11_count_95 ⟨Nat.le_of_ble_eq_true rfl, Nat.le_of_ble_eq_true rfl⟩) hS (fun q _ h => hFc q h) hFc (fun r_8 u t H1 locs ht hvm hw hB hz1 hk1 hS => ?_)
    obtain ⟨hP1, hK1, hD1⟩ := hB
    rw [ht] at hP1
    try dsimp only at hw
    obtain ⟨hP, hD⟩ := va_join (wr := [(h0, .inr (11, [.ref x0, .ref x1, .ref x2, .ref x3, .ref x4, .ref x5, .ref x6, .ref x7, .ref x8, .ref x9, .ref x10])), (x0, .inr (9, [.ref tb, .int 0, .int 0, .int (-1), .int 0, .int 0, .int 0])), (x3, .inr (10, [.ref w0, .ref w1, .ref w2, .int 0, .int 0, .int 0, .int 0, .int 0, .int 1])), (x7, .inr (8, [.ref sn, .ref sw, .ref ss])), (ss, .inl (cI, 4, .inl (fun _ => (-1))))]) (w1 := [(x2, .inr (0, [.int 0, .int 0, .int 0, .int 0, .int 0, .ref f5, .ref f6, .ref f7, .ref f8, .ref f9, .ref f10, .ref f11]))]) hP hD [2] [0, 1, 3, 4, 5] rfl rfl (by decide) (by decide) hk1 hFc hP1 hD1
    clear hPc hDc hKc hFc hk1 hP1 hK1 hD1
    generalize H1 = H at hP hS ⊢
    have hP : va_P (dC, dI) vwCl [(h0, .inr (11, [.ref x0, .ref x1, .ref x2, .ref x3, .ref x4, .ref x5, .ref x6, .ref x7, .ref x8, .ref x9, .ref x10])), (x0, .inr (9, [.ref tb, .int 0, .int 0, .int (-1), .int 0, .int 0, .int 0])), (x3, .inr (10, [.ref w0, .ref w1, .ref w2, .int 0, .int 0, .int 0, .int 0, .int 0, .int 1])), (x7, .inr (8, [.ref sn, .ref sw, .ref ss])), (ss, .inl (cI, 4, .inl (fun _ => (-1)))), (x2, .inr (0, [.int 0, .int 0, .int 0, .int 0, .int 0, .ref f5, .ref f6, .ref f7, .ref f8, .ref f9, .ref f10, .ref f11]))] H := hP
    have hD : va_D A [(h0, .inr (11, [.ref x0, .ref x1, .ref x2, .ref x3, .ref x4, .ref x5, .ref x6, .ref x7, .ref x8, .ref x9, .ref x10])), (x0, .inr (9, [.ref tb, .int 0, .int 0, .int (-1), .int 0, .int 0, .int 0])), (x3, .inr (10, [.ref w0, .ref w1, .ref w2, .int 0, .int 0, .int 0, .int 0, .int 0, .int 1])), (x7, .inr (8, [.ref sn, .ref sw, .ref ss])), (ss, .inl (cI, 4, .inl (fun _ => (-1)))), (x2, .inr (0, [.int 0, .int 0, .int 0, .int 0, .int 0, .ref f5, .ref f6, .ref f7, .ref f8, .ref f9, .ref f10, .ref f11]))] := hD
    have er_8 : r_8 = 0 := hw
    refine wx_ti (y := 0) er_8 ?_
    have hPc := hP.sub (ws' := []) [] rfl
    have hDc := hD.sub (ws' := []) [] (by decide) rfl
    have hKc := hK.sub (tys' := []) [] rfl
    have hFc := va_free (wc := []) hD hS hA [] rfl
    refine va_calli (va_runS (As := [.int 0]) (rest := []) ⟨hx, hb, hml, hown, hts⟩ (c_bitCount_0 l dC dI  H.size) (va_cwS 1 hts g_c_X11_count_0_1 rfl rfl rfl (by decide +kernel) ⟨Nat.le_of_ble_eq_true rfl, Nat.le_of_ble_eq_true rfl⟩) ⟨fun a U g mk q => by obtain ⟨q0, q1, qP, qK, qD⟩ := q; exact ⟨q0, q1, qP, va_K.moved (u := U) (U := U.calling g mk a) (Vm.Alike.refl U.vm) qK, qD⟩, fun U hU hW => ⟨rfl, by rw [hU], by rw [hU]; exact hPc, va_K.moved hW.alike hKc, hDc.weaken (fun _ _ _ _ => trivial)⟩⟩ rfl rfl hl.1 rfl (lv_room (Nat.le_of_ble_eq_true rfl)) dX11_count_98 ⟨Nat.le_of_ble_eq_true rfl, Nat.le_of_ble_eq_true rfl⟩) hS (fun q _ h => hFc q h) hFc (fun r_9 u t H1 locs ht hvm hw hB hz1 hk1 hS => ?_)
    obtain ⟨hP1, hK1, hD1⟩ := hB
    rw [ht] at hP1
    try dsimp only at hw
    obtain ⟨hP, hD⟩ := va_join (wr := [(h0, .inr (11, [.ref x0, .ref x1, .ref x2, .ref x3, .ref x4, .ref x5, .ref x6, .ref x7, .ref x8, .ref x9, .ref x10])), (x0, .inr (9, [.ref tb, .int 0, .int 0, .int (-1), .int 0, .int 0, .int 0])), (x3, .inr (10, [.ref w0, .ref w1, .ref w2, .int 0, .int 0, .int 0, .int 0, .int 0, .int 1])), (x7, .inr (8, [.ref sn, .ref sw, .ref ss])), (ss, .inl (cI, 4, .inl (fun _ => (-1)))), (x2, .inr (0, [.int 0, .int 0, .int 0, .int 0, .int 0, .ref f5, .ref f6, .ref f7, .ref f8, .ref f9, .ref f10, .ref f11]))]) (w1 := []) hP hD [] [0, 1, 2, 3, 4, 5] rfl rfl (by decide) (by decide) hk1 hFc hP1 hD1
    clear hPc hDc hKc hFc hk1 hP1 hK1 hD1
    generalize H1 = H at hP hS ⊢
    have hP : va_P (dC, dI) vwCl [(h0, .inr (11, [.ref x0, .ref x1, .ref x2, .ref x3, .ref x4, .ref x5, .ref x6, .ref x7, .ref x8, .ref x9, .ref x10])), (x0, .inr (9, [.ref tb, .int 0, .int 0, .int (-1), .int 0, .int 0, .int 0])), (x3, .inr (10, [.ref w0, .ref w1, .ref w2, .int 0, .int 0, .int 0, .int 0, .int 0, .int 1])), (x7, .inr (8, [.ref sn, .ref sw, .ref ss])), (ss, .inl (cI, 4, .inl (fun _ => (-1)))), (x2, .inr (0, [.int 0, .int 0, .int 0, .int 0, .int 0, .ref f5, .ref f6, .ref f7, .ref f8, .ref f9, .ref f10, .ref f11]))] H := hP
    have hD : va_D A [(h0, .inr (11, [.ref x0, .ref x1, .ref x2, .ref x3, .ref x4, .ref x5, .ref x6, .ref x7, .ref x8, .ref x9, .ref x10])), (x0, .inr (9, [.ref tb, .int 0, .int 0, .int (-1), .int 0, .int 0, .int 0])), (x3, .inr (10, [.ref w0, .ref w1, .ref w2, .int 0, .int 0, .int 0, .int 0, .int 0, .int 1])), (x7, .inr (8, [.ref sn, .ref sw, .ref ss])), (ss, .inl (cI, 4, .inl (fun _ => (-1)))), (x2, .inr (0, [.int 0, .int 0, .int 0, .int 0, .int 0, .ref f5, .ref f6, .ref f7, .ref f8, .ref f9, .ref f10, .ref f11]))] := hD
    have er_9 : r_9 = 0 := hw
    refine wx_ti (y := 0) er_9 ?_
    have hP9 := hP.sub (ws' := [(h0, .inr (11, [.ref x0, .ref x1, .ref x2, .ref x3, .ref x4, .ref x5, .ref x6, .ref x7, .ref x8, .ref x9, .ref x10])), (x0, .inr (9, [.ref tb, .int 0, .int 0, .int (-1), .int 0, .int 0, .int 0])), (x2, .inr (0, [.int 0, .int 0, .int 0, .int 0, .int 0, .ref f5, .ref f6, .ref f7, .ref f8, .ref f9, .ref f10, .ref f11])), (x3, .inr (10, [.ref w0, .ref w1, .ref w2, .int 0, .int 0, .int 0, .int 0, .int 0, .int 1])), (x7, .inr (8, [.ref sn, .ref sw, .ref ss])), (ss, .inl (cI, 4, .inl (fun _ => (-1))))]) [0, 1, 5, 2, 3, 4] rfl
    have hD9 := hD.sub (ws' := [(h0, .inr (11, [.ref x0, .ref x1, .ref x2, .ref x3, .ref x4, .ref x5, .ref x6, .ref x7, .ref x8, .ref x9, .ref x10])), (x0, .inr (9, [.ref tb, .int 0, .int 0, .int (-1), .int 0, .int 0, .int 0])), (x2, .inr (0, [.int 0, .int 0, .int 0, .int 0, .int 0, .ref f5, .ref f6, .ref f7, .ref f8, .ref f9, .ref f10, .ref f11])), (x3, .inr (10, [.ref w0, .ref w1, .ref w2, .int 0, .int 0, .int 0, .int 0, .int 0, .int 1])), (x7, .inr (8, [.ref sn, .ref sw, .ref ss])), (ss, .inl (cI, 4, .inl (fun _ => (-1))))]) [0, 1, 5, 2, 3, 4] (by decide) rfl
    exact W.iret (v := 0) hx hb hr (fun t ht hW => ⟨⟨0, (), rfl, (by decide), by rw [ht]; exact hP9, va_K.moved hW.alike hK, hD9⟩, hS.F ht⟩) hS.2.2 dX11_count_101
  by_cases c_10 : p0 = 5
  · subst c_10
    refine lv_tableIn (off := 101) (tgt := 102) hx hb dX11_count_1 (by decide) (by decide) (by decide) (by decide) ?_
    refine lv_aload_n hx hb dX11_count_102 rfl (lv_at hl 0 rfl) ?_
    refine va_get (D := (dC, dI)) (ci := 11) (v := .ref x2) (C := RX11) (T := TX11) (N := 11) hx hb hts i_c_X11_count_0_X11 hown hK hP 0 rfl rfl 2 (by decide) (hts (.fieldLink RX11 23 "OnePassport" "family" "LOnePassport$Family;") (List.mem_of_getElem? (i := 1) rfl)) (fun _ h9 => h9) rfl dX11_count_103 ?_
    refine va_get (D := (dC, dI)) (ci := 0) (v := .int 0) (C := RX0) (T := TX0) (N := 12) hx hb hts i_c_X11_count_0_X0 hown hK hP 2 rfl rfl 2 (by decide) (hts (.fieldLink RX11 390 "OnePassport$Family" "compare" "I") (List.mem_of_getElem? (i := 28) rfl)) (fun _ h9 => h9) rfl dX11_count_106 ?_
    have hP9 := hP.sub (ws' := [(h0, .inr (11, [.ref x0, .ref x1, .ref x2, .ref x3, .ref x4, .ref x5, .ref x6, .ref x7, .ref x8, .ref x9, .ref x10])), (x0, .inr (9, [.ref tb, .int 0, .int 0, .int (-1), .int 0, .int 0, .int 0])), (x2, .inr (0, [.int 0, .int 0, .int 0, .int 0, .int 0, .ref f5, .ref f6, .ref f7, .ref f8, .ref f9, .ref f10, .ref f11])), (x3, .inr (10, [.ref w0, .ref w1, .ref w2, .int 0, .int 0, .int 0, .int 0, .int 0, .int 1])), (x7, .inr (8, [.ref sn, .ref sw, .ref ss])), (ss, .inl (cI, 4, .inl (fun _ => (-1))))]) [0, 1, 2, 3, 4, 5] rfl
    have hD9 := hD.sub (ws' := [(h0, .inr (11, [.ref x0, .ref x1, .ref x2, .ref x3, .ref x4, .ref x5, .ref x6, .ref x7, .ref x8, .ref x9, .ref x10])), (x0, .inr (9, [.ref tb, .int 0, .int 0, .int (-1), .int 0, .int 0, .int 0])), (x2, .inr (0, [.int 0, .int 0, .int 0, .int 0, .int 0, .ref f5, .ref f6, .ref f7, .ref f8, .ref f9, .ref f10, .ref f11])), (x3, .inr (10, [.ref w0, .ref w1, .ref w2, .int 0, .int 0, .int 0, .int 0, .int 0, .int 1])), (x7, .inr (8, [.ref sn, .ref sw, .ref ss])), (ss, .inl (cI, 4, .inl (fun _ => (-1))))]) [0, 1, 2, 3, 4, 5] (by decide) rfl
    exact W.iret (v := 0) hx hb hr (fun t ht hW => ⟨⟨0, (), rfl, (by decide), by rw [ht]; exact hP9, va_K.moved hW.alike hK, hD9⟩, hS.F ht⟩) hS.2.2 dX11_count_109
  by_cases c_11 : p0 = 6
  · subst c_11
    refine lv_tableIn (off := 109) (tgt := 110) hx hb dX11_count_1 (by decide) (by decide) (by decide) (by decide) ?_
    refine lv_aload_n hx hb dX11_count_110 rfl (lv_at hl 0 rfl) ?_
    refine va_get (D := (dC, dI)) (ci := 11) (v := .ref x3) (C := RX11) (T := TX11) (N := 11) hx hb hts i_c_X11_count_0_X11 hown hK hP 0 rfl rfl 3 (by decide) (hts (.fieldLink RX11 29 "OnePassport" "walk" "LOnePassport$Walk;") (List.mem_of_getElem? (i := 29) rfl)) (fun _ h9 => h9) rfl dX11_count_111 ?_
    refine va_get (D := (dC, dI)) (ci := 10) (v := .int 0) (C := RX10) (T := TX10) (N := 9) hx hb hts i_c_X11_count_0_X10 hown hK hP 3 rfl rfl 3 (by decide) (hts (.fieldLink RX11 178 "OnePassport$Walk" "count" "I") (List.mem_of_getElem? (i := 30) rfl)) (fun _ h9 => h9) rfl dX11_count_114 ?_
    have hP9 := hP.sub (ws' := [(h0, .inr (11, [.ref x0, .ref x1, .ref x2, .ref x3, .ref x4, .ref x5, .ref x6, .ref x7, .ref x8, .ref x9, .ref x10])), (x0, .inr (9, [.ref tb, .int 0, .int 0, .int (-1), .int 0, .int 0, .int 0])), (x2, .inr (0, [.int 0, .int 0, .int 0, .int 0, .int 0, .ref f5, .ref f6, .ref f7, .ref f8, .ref f9, .ref f10, .ref f11])), (x3, .inr (10, [.ref w0, .ref w1, .ref w2, .int 0, .int 0, .int 0, .int 0, .int 0, .int 1])), (x7, .inr (8, [.ref sn, .ref sw, .ref ss])), (ss, .inl (cI, 4, .inl (fun _ => (-1))))]) [0, 1, 2, 3, 4, 5] rfl
    have hD9 := hD.sub (ws' := [(h0, .inr (11, [.ref x0, .ref x1, .ref x2, .ref x3, .ref x4, .ref x5, .ref x6, .ref x7, .ref x8, .ref x9, .ref x10])), (x0, .inr (9, [.ref tb, .int 0, .int 0, .int (-1), .int 0, .int 0, .int 0])), (x2, .inr (0, [.int 0, .int 0, .int 0, .int 0, .int 0, .ref f5, .ref f6, .ref f7, .ref f8, .ref f9, .ref f10, .ref f11])), (x3, .inr (10, [.ref w0, .ref w1, .ref w2, .int 0, .int 0, .int 0, .int 0, .int 0, .int 1])), (x7, .inr (8, [.ref sn, .ref sw, .ref ss])), (ss, .inl (cI, 4, .inl (fun _ => (-1))))]) [0, 1, 2, 3, 4, 5] (by decide) rfl
    exact W.iret (v := 0) hx hb hr (fun t ht hW => ⟨⟨0, (), rfl, (by decide), by rw [ht]; exact hP9, va_K.moved hW.alike hK, hD9⟩, hS.F ht⟩) hS.2.2 dX11_count_117
  by_cases c_12 : p0 = 7
  · subst c_12
    refine lv_tableIn (off := 117) (tgt := 118) hx hb dX11_count_1 (by decide) (by decide) (by decide) (by decide) ?_
    refine lv_aload_n hx hb dX11_count_118 rfl (lv_at hl 0 rfl) ?_
    refine va_get (D := (dC, dI)) (ci := 11) (v := .ref x2) (C := RX11) (T := TX11) (N := 11) hx hb hts i_c_X11_count_0_X11 hown hK hP 0 rfl rfl 2 (by decide) (hts (.fieldLink RX11 23 "OnePassport" "family" "LOnePassport$Family;") (List.mem_of_getElem? (i := 1) rfl)) (fun _ h9 => h9) rfl dX11_count_119 ?_
    refine va_get (D := (dC, dI)) (ci := 0) (v := .int 0) (C := RX0) (T := TX0) (N := 12) hx hb hts i_c_X11_count_0_X0 hown hK hP 2 rfl rfl 0 (by decide) (hts (.fieldLink RX11 95 "OnePassport$Family" "lines" "I") (List.mem_of_getElem? (i := 31) rfl)) (fun _ h9 => h9) rfl dX11_count_122 ?_
    have hP9 := hP.sub (ws' := [(h0, .inr (11, [.ref x0, .ref x1, .ref x2, .ref x3, .ref x4, .ref x5, .ref x6, .ref x7, .ref x8, .ref x9, .ref x10])), (x0, .inr (9, [.ref tb, .int 0, .int 0, .int (-1), .int 0, .int 0, .int 0])), (x2, .inr (0, [.int 0, .int 0, .int 0, .int 0, .int 0, .ref f5, .ref f6, .ref f7, .ref f8, .ref f9, .ref f10, .ref f11])), (x3, .inr (10, [.ref w0, .ref w1, .ref w2, .int 0, .int 0, .int 0, .int 0, .int 0, .int 1])), (x7, .inr (8, [.ref sn, .ref sw, .ref ss])), (ss, .inl (cI, 4, .inl (fun _ => (-1))))]) [0, 1, 2, 3, 4, 5] rfl
    have hD9 := hD.sub (ws' := [(h0, .inr (11, [.ref x0, .ref x1, .ref x2, .ref x3, .ref x4, .ref x5, .ref x6, .ref x7, .ref x8, .ref x9, .ref x10])), (x0, .inr (9, [.ref tb, .int 0, .int 0, .int (-1), .int 0, .int 0, .int 0])), (x2, .inr (0, [.int 0, .int 0, .int 0, .int 0, .int 0, .ref f5, .ref f6, .ref f7, .ref f8, .ref f9, .ref f10, .ref f11])), (x3, .inr (10, [.ref w0, .ref w1, .ref w2, .int 0, .int 0, .int 0, .int 0, .int 0, .int 1])), (x7, .inr (8, [.ref sn, .ref sw, .ref ss])), (ss, .inl (cI, 4, .inl (fun _ => (-1))))]) [0, 1, 2, 3, 4, 5] (by decide) rfl
    exact W.iret (v := 0) hx hb hr (fun t ht hW => ⟨⟨0, (), rfl, (by decide), by rw [ht]; exact hP9, va_K.moved hW.alike hK, hD9⟩, hS.F ht⟩) hS.2.2 dX11_count_125
  by_cases c_13 : p0 = 8
  · subst c_13
    refine lv_tableIn (off := 125) (tgt := 126) hx hb dX11_count_1 (by decide) (by decide) (by decide) (by decide) ?_
    refine lv_aload_n hx hb dX11_count_126 rfl (lv_at hl 0 rfl) ?_
    refine va_get (D := (dC, dI)) (ci := 11) (v := .ref x0) (C := RX11) (T := TX11) (N := 11) hx hb hts i_c_X11_count_0_X11 hown hK hP 0 rfl rfl 0 (by decide) (hts (.fieldLink RX11 10 "OnePassport" "tape" "LOnePassport$Tape;") (List.mem_of_getElem? (i := 32) rfl)) (fun _ h9 => h9) rfl dX11_count_127 ?_
    refine va_get (D := (dC, dI)) (ci := 9) (v := .int 0) (C := RX9) (T := TX9) (N := 7) hx hb hts i_c_X11_count_0_X9 hown hK hP 1 rfl rfl 1 (by decide) (hts (.fieldLink RX11 71 "OnePassport$Tape" "length" "I") (List.mem_of_getElem? (i := 33) rfl)) (fun _ h9 => h9) rfl dX11_count_130 ?_
    have hP9 := hP.sub (ws' := [(h0, .inr (11, [.ref x0, .ref x1, .ref x2, .ref x3, .ref x4, .ref x5, .ref x6, .ref x7, .ref x8, .ref x9, .ref x10])), (x0, .inr (9, [.ref tb, .int 0, .int 0, .int (-1), .int 0, .int 0, .int 0])), (x2, .inr (0, [.int 0, .int 0, .int 0, .int 0, .int 0, .ref f5, .ref f6, .ref f7, .ref f8, .ref f9, .ref f10, .ref f11])), (x3, .inr (10, [.ref w0, .ref w1, .ref w2, .int 0, .int 0, .int 0, .int 0, .int 0, .int 1])), (x7, .inr (8, [.ref sn, .ref sw, .ref ss])), (ss, .inl (cI, 4, .inl (fun _ => (-1))))]) [0, 1, 2, 3, 4, 5] rfl
    have hD9 := hD.sub (ws' := [(h0, .inr (11, [.ref x0, .ref x1, .ref x2, .ref x3, .ref x4, .ref x5, .ref x6, .ref x7, .ref x8, .ref x9, .ref x10])), (x0, .inr (9, [.ref tb, .int 0, .int 0, .int (-1), .int 0, .int 0, .int 0])), (x2, .inr (0, [.int 0, .int 0, .int 0, .int 0, .int 0, .ref f5, .ref f6, .ref f7, .ref f8, .ref f9, .ref f10, .ref f11])), (x3, .inr (10, [.ref w0, .ref w1, .ref w2, .int 0, .int 0, .int 0, .int 0, .int 0, .int 1])), (x7, .inr (8, [.ref sn, .ref sw, .ref ss])), (ss, .inl (cI, 4, .inl (fun _ => (-1))))]) [0, 1, 2, 3, 4, 5] (by decide) rfl
    exact W.iret (v := 0) hx hb hr (fun t ht hW => ⟨⟨0, (), rfl, (by decide), by rw [ht]; exact hP9, va_K.moved hW.alike hK, hD9⟩, hS.F ht⟩) hS.2.2 dX11_count_133
  by_cases c_14 : p0 = 9
  · subst c_14
    refine lv_tableIn (off := 133) (tgt := 134) hx hb dX11_count_1 (by decide) (by decide) (by decide) (by decide) ?_
    refine lv_aload_n hx hb dX11_count_134 rfl (lv_at hl 0 rfl) ?_
    refine va_get (D := (dC, dI)) (ci := 11) (v := .ref x7) (C := RX11) (T := TX11) (N := 11) hx hb hts i_c_X11_count_0_X11 hown hK hP 0 rfl rfl 7 (by decide) (hts (.fieldLink RX11 55 "OnePassport" "slots" "LOnePassport$Slots;") (List.mem_of_getElem? (i := 34) rfl)) (fun _ h9 => h9) rfl dX11_count_135 ?_
    have hPc := hP.sub (ws' := [(x7, .inr (8, [.ref sn, .ref sw, .ref ss])), (ss, .inl (cI, 4, .inl (fun _ => (-1))))]) [4, 5] rfl
    have hDc := hD.sub (ws' := [(x7, .inr (8, [.ref sn, .ref sw, .ref ss])), (ss, .inl (cI, 4, .inl (fun _ => (-1))))]) [4, 5] (by decide) rfl
    have hKc := hK.sub (tys' := [(cI, .int)]) [0] rfl
    have hFc := va_free (wc := [(x7, .inr (8, [.ref sn, .ref sw, .ref ss])), (ss, .inl (cI, 4, .inl (fun _ => (-1))))]) hD hS hA [4, 5] rfl
    refine va_calli (va_runV (As := []) (rest := []) ⟨hx, hb, hml, hown, hts⟩ (c_X8_countRows_0 l dC dI cI x7 sn sw ss s.heap.size) (cwV 0 hts g_c_X11_count_0_3 rfl rfl rfl (by decide +kernel) ⟨Nat.le_of_ble_eq_true rfl, Nat.le_of_ble_eq_true rfl⟩) ⟨fun a U g mk q => by obtain ⟨q0, q1, qP, qK, qD⟩ := q; exact ⟨q0, q1, qP, va_K.moved (u := U) (U := U.calling g mk a) (Vm.Alike.refl U.vm) qK, qD⟩, va_recv hKc hPc (ci := 8) (q0 := 0) rfl rfl, fun U hU hW => ⟨rfl, by rw [hU], by rw [hU]; exact hPc, va_K.moved hW.alike hKc, hDc.weaken (fun _ _ _ _ => trivial)⟩⟩ rfl rfl hl.1 rfl (lv_room (Nat.le_of_ble_eq_true rfl)) dX11_count_138 ⟨Nat.le_of_ble_eq_true rfl, Nat.le_of_ble_eq_true rfl⟩) hS (fun q _ h => hFc q h) hFc (fun r_15 u t H1 locs ht hvm hw hB hz1 hk1 hS => ?_)
    obtain ⟨hP1, hK1, hD1⟩ := hB
    rw [ht] at hP1
    try dsimp only at hw
    obtain ⟨hP, hD⟩ := va_join (wr := [(h0, .inr (11, [.ref x0, .ref x1, .ref x2, .ref x3, .ref x4, .ref x5, .ref x6, .ref x7, .ref x8, .ref x9, .ref x10])), (x0, .inr (9, [.ref tb, .int 0, .int 0, .int (-1), .int 0, .int 0, .int 0])), (x2, .inr (0, [.int 0, .int 0, .int 0, .int 0, .int 0, .ref f5, .ref f6, .ref f7, .ref f8, .ref f9, .ref f10, .ref f11])), (x3, .inr (10, [.ref w0, .ref w1, .ref w2, .int 0, .int 0, .int 0, .int 0, .int 0, .int 1]))]) (w1 := [(x7, .inr (8, [.ref sn, .ref sw, .ref ss])), (ss, .inl (cI, 4, .inl (fun _ => (-1))))]) hP hD [4, 5] [0, 1, 2, 3] rfl rfl (by decide) (by decide) hk1 hFc hP1 hD1
    clear hPc hDc hKc hFc hk1 hP1 hK1 hD1
    generalize H1 = H at hP hS ⊢
    have hP : va_P (dC, dI) vwCl [(h0, .inr (11, [.ref x0, .ref x1, .ref x2, .ref x3, .ref x4, .ref x5, .ref x6, .ref x7, .ref x8, .ref x9, .ref x10])), (x0, .inr (9, [.ref tb, .int 0, .int 0, .int (-1), .int 0, .int 0, .int 0])), (x2, .inr (0, [.int 0, .int 0, .int 0, .int 0, .int 0, .ref f5, .ref f6, .ref f7, .ref f8, .ref f9, .ref f10, .ref f11])), (x3, .inr (10, [.ref w0, .ref w1, .ref w2, .int 0, .int 0, .int 0, .int 0, .int 0, .int 1])), (x7, .inr (8, [.ref sn, .ref sw, .ref ss])), (ss, .inl (cI, 4, .inl (fun _ => (-1))))] H := hP
    have hD : va_D A [(h0, .inr (11, [.ref x0, .ref x1, .ref x2, .ref x3, .ref x4, .ref x5, .ref x6, .ref x7, .ref x8, .ref x9, .ref x10])), (x0, .inr (9, [.ref tb, .int 0, .int 0, .int (-1), .int 0, .int 0, .int 0])), (x2, .inr (0, [.int 0, .int 0, .int 0, .int 0, .int 0, .ref f5, .ref f6, .ref f7, .ref f8, .ref f9, .ref f10, .ref f11])), (x3, .inr (10, [.ref w0, .ref w1, .ref w2, .int 0, .int 0, .int 0, .int 0, .int 0, .int 1])), (x7, .inr (8, [.ref sn, .ref sw, .ref ss])), (ss, .inl (cI, 4, .inl (fun _ => (-1))))] := hD
    have er_15 : r_15 = 0 := hw
    refine wx_ti (y := 0) er_15 ?_
    have hP9 := hP.sub (ws' := [(h0, .inr (11, [.ref x0, .ref x1, .ref x2, .ref x3, .ref x4, .ref x5, .ref x6, .ref x7, .ref x8, .ref x9, .ref x10])), (x0, .inr (9, [.ref tb, .int 0, .int 0, .int (-1), .int 0, .int 0, .int 0])), (x2, .inr (0, [.int 0, .int 0, .int 0, .int 0, .int 0, .ref f5, .ref f6, .ref f7, .ref f8, .ref f9, .ref f10, .ref f11])), (x3, .inr (10, [.ref w0, .ref w1, .ref w2, .int 0, .int 0, .int 0, .int 0, .int 0, .int 1])), (x7, .inr (8, [.ref sn, .ref sw, .ref ss])), (ss, .inl (cI, 4, .inl (fun _ => (-1))))]) [0, 1, 2, 3, 4, 5] rfl
    have hD9 := hD.sub (ws' := [(h0, .inr (11, [.ref x0, .ref x1, .ref x2, .ref x3, .ref x4, .ref x5, .ref x6, .ref x7, .ref x8, .ref x9, .ref x10])), (x0, .inr (9, [.ref tb, .int 0, .int 0, .int (-1), .int 0, .int 0, .int 0])), (x2, .inr (0, [.int 0, .int 0, .int 0, .int 0, .int 0, .ref f5, .ref f6, .ref f7, .ref f8, .ref f9, .ref f10, .ref f11])), (x3, .inr (10, [.ref w0, .ref w1, .ref w2, .int 0, .int 0, .int 0, .int 0, .int 0, .int 1])), (x7, .inr (8, [.ref sn, .ref sw, .ref ss])), (ss, .inl (cI, 4, .inl (fun _ => (-1))))]) [0, 1, 2, 3, 4, 5] (by decide) rfl
    exact W.iret (v := 0) hx hb hr (fun t ht hW => ⟨⟨0, (), rfl, (by decide), by rw [ht]; exact hP9, va_K.moved hW.alike hK, hD9⟩, hS.F ht⟩) hS.2.2 dX11_count_141
  refine lv_tableOut (tgt := 142) hx hb dX11_count_1 (by have t0 := lv_neT c_1 (a := 0) (by decide); have t1 := lv_neT c_2 (a := 1) (by decide); have t2 := lv_neT c_3 (a := 2) (by decide); have t3 := lv_neT c_4 (a := 3) (by decide); have t4 := lv_neT c_7 (a := 4) (by decide); have t5 := lv_neT c_10 (a := 5) (by decide); have t6 := lv_neT c_11 (a := 6) (by decide); have t7 := lv_neT c_12 (a := 7) (by decide); have t8 := lv_neT c_13 (a := 8) (by decide); have t9 := lv_neT c_14 (a := 9) (by decide); omega) (by decide) ?_
  refine lv_iconst (v := (-1)) hx hb dX11_count_142 (by decide) ?_
  have hP9 := hP.sub (ws' := [(h0, .inr (11, [.ref x0, .ref x1, .ref x2, .ref x3, .ref x4, .ref x5, .ref x6, .ref x7, .ref x8, .ref x9, .ref x10])), (x0, .inr (9, [.ref tb, .int 0, .int 0, .int (-1), .int 0, .int 0, .int 0])), (x2, .inr (0, [.int 0, .int 0, .int 0, .int 0, .int 0, .ref f5, .ref f6, .ref f7, .ref f8, .ref f9, .ref f10, .ref f11])), (x3, .inr (10, [.ref w0, .ref w1, .ref w2, .int 0, .int 0, .int 0, .int 0, .int 0, .int 1])), (x7, .inr (8, [.ref sn, .ref sw, .ref ss])), (ss, .inl (cI, 4, .inl (fun _ => (-1))))]) [0, 1, 2, 3, 4, 5] rfl
  have hD9 := hD.sub (ws' := [(h0, .inr (11, [.ref x0, .ref x1, .ref x2, .ref x3, .ref x4, .ref x5, .ref x6, .ref x7, .ref x8, .ref x9, .ref x10])), (x0, .inr (9, [.ref tb, .int 0, .int 0, .int (-1), .int 0, .int 0, .int 0])), (x2, .inr (0, [.int 0, .int 0, .int 0, .int 0, .int 0, .ref f5, .ref f6, .ref f7, .ref f8, .ref f9, .ref f10, .ref f11])), (x3, .inr (10, [.ref w0, .ref w1, .ref w2, .int 0, .int 0, .int 0, .int 0, .int 0, .int 1])), (x7, .inr (8, [.ref sn, .ref sw, .ref ss])), (ss, .inl (cI, 4, .inl (fun _ => (-1))))]) [0, 1, 2, 3, 4, 5] (by decide) rfl
  exact W.iret (v := (-1)) hx hb hr (fun t ht hW => ⟨⟨(-1), (), rfl, (by have t0 := lv_neT c_1 (a := 0) (by decide); have t1 := lv_neT c_2 (a := 1) (by decide); have t2 := lv_neT c_3 (a := 2) (by decide); have t3 := lv_neT c_4 (a := 3) (by decide); have t4 := lv_neT c_7 (a := 4) (by decide); have t5 := lv_neT c_10 (a := 5) (by decide); have t6 := lv_neT c_11 (a := 6) (by decide); have t7 := lv_neT c_12 (a := 7) (by decide); have t8 := lv_neT c_13 (a := 8) (by decide); have t9 := lv_neT c_14 (a := 9) (by decide); rw [if_neg (by omega)]), by rw [ht]; exact hP9, va_K.moved hW.alike hK, hD9⟩, hS.F ht⟩) hS.2.2 dX11_count_143

theorem dX8_lay_0 : decode cX8_lay 0 = .ok (.aload_n 0, 1) := by decide +kernel
theorem dX8_lay_1 : decode cX8_lay 1 = .ok (.getfield 16, 3) := by decide +kernel
theorem dX8_lay_4 : decode cX8_lay 4 = .ok (.iload_n 1, 1) := by decide +kernel
theorem dX8_lay_5 : decode cX8_lay 5 = .ok (.iload_n 2, 1) := by decide +kernel
theorem dX8_lay_6 : decode cX8_lay 6 = .ok (.iastore, 1) := by decide +kernel
theorem dX8_lay_7 : decode cX8_lay 7 = .ok (.aload_n 0, 1) := by decide +kernel
theorem dX8_lay_8 : decode cX8_lay 8 = .ok (.getfield 20, 3) := by decide +kernel
theorem dX8_lay_11 : decode cX8_lay 11 = .ok (.iload_n 1, 1) := by decide +kernel
theorem dX8_lay_12 : decode cX8_lay 12 = .ok (.iload_n 3, 1) := by decide +kernel
theorem dX8_lay_13 : decode cX8_lay 13 = .ok (.iastore, 1) := by decide +kernel
theorem dX8_lay_14 : decode cX8_lay 14 = .ok (.aload_n 0, 1) := by decide +kernel
theorem dX8_lay_15 : decode cX8_lay 15 = .ok (.getfield 13, 3) := by decide +kernel
theorem dX8_lay_18 : decode cX8_lay 18 = .ok (.iload_n 1, 1) := by decide +kernel
theorem dX8_lay_19 : decode cX8_lay 19 = .ok (.aaload, 1) := by decide +kernel
theorem dX8_lay_20 : decode cX8_lay 20 = .ok (.lconst 0, 1) := by decide +kernel
theorem dX8_lay_21 : decode cX8_lay 21 = .ok (.invokestatic 29, 3) := by decide +kernel
theorem dX8_lay_24 : decode cX8_lay 24 = .ok (.return_, 1) := by decide +kernel
def w_c_X8_lay_0 : List Cond := .code yX8_lay cX8_lay 4 none :: ([.fieldLink RX8 16 "OnePassport$Slots" "width" "[I", .fieldLink RX8 20 "OnePassport$Slots" "size" "[I", .fieldLink RX8 13 "OnePassport$Slots" "numbers" "[[J", .methodLink RX8 29 yJ7_fill_d0a16, .static yJ7_fill_d0a16, .initialized RJ7, .code yJ7_fill_d0a16 cJ7_fill_d0a16 5 none] ++ wsX80)
theorem i_c_X8_lay_0_X8 : ∀ w ∈ wsX80, w ∈ w_c_X8_lay_0 := fun _ h => List.mem_cons_of_mem _ (List.mem_append_right _ h)
set_option maxRecDepth 100000 in
theorem g_c_X8_lay_0_0 : GoodIn w_c_X8_lay_0 (va_wsS RX8 29 yJ7_fill_d0a16 w_c_fillJ) := goodIn_of _ (by decide +kernel)
set_option maxHeartbeats 4000000 in
set_option maxRecDepth 100000 in
theorem c_X8_lay_0 (l : Launch) (dC : Nat → ClassId) (dI : Nat → Nat → Nat) (cI : ClassId) (cJ : ClassId) (cK : ClassId) (h0 : Nat) (sn : Nat) (sw : Nat) (ss : Nat) (r0 : Nat) (r1 : Nat) (r2 : Nat) (r3 : Nat) (p0 : Int32) (p1 : Int32) (p2 : Int32) (hp : 0 ≤ p0.toInt ∧ p0.toInt ≤ 3) (sz : Nat) : Met l yX8_lay w_c_X8_lay_0 ({ frames := 1, cells := 0, slots := 0, locals := 24 }) (va_Pc [.ref h0, .int p0, .int p1, .int p2] (fun U => U.heap.size = sz ∧ va_P (dC, dI) vwCl [(h0, .inr (8, [.ref sn, .ref sw, .ref ss])), (sn, .inl (cK, 4, .inr (.inr (.inr (.inr (fun i => if i = 0 then some r0 else if i = 1 then some r1 else if i = 2 then some r2 else if i = 3 then some r3 else none)))))), (r0, .inl (cJ, 60, .inr (.inl (fun _ => 0)))), (r1, .inl (cJ, 60, .inr (.inl (fun _ => 0)))), (r2, .inl (cJ, 60, .inr (.inl (fun _ => 0)))), (r3, .inl (cJ, 60, .inr (.inl (fun _ => 0)))), (sw, .inl (cI, 4, .inl (fun _ => 0))), (ss, .inl (cI, 4, .inl (fun _ => (-1))))] U.heap ∧ va_K (dC, dI) vwCl [(cI, .int), (cJ, .long), (cK, .array .long)] U ∧ va_D (fun _ => True) [(h0, .inr (8, [.ref sn, .ref sw, .ref ss])), (sn, .inl (cK, 4, .inr (.inr (.inr (.inr (fun i => if i = 0 then some r0 else if i = 1 then some r1 else if i = 2 then some r2 else if i = 3 then some r3 else none)))))), (r0, .inl (cJ, 60, .inr (.inl (fun _ => 0)))), (r1, .inl (cJ, 60, .inr (.inl (fun _ => 0)))), (r2, .inl (cJ, 60, .inr (.inl (fun _ => 0)))), (r3, .inl (cJ, 60, .inr (.inl (fun _ => 0)))), (sw, .inl (cI, 4, .inl (fun _ => 0))), (ss, .inl (cI, 4, .inl (fun _ => (-1))))])) (va_Qv (fun _ : Unit => True) (fun (_ : Unit) (t : State) => ∃ (g1 : Nat → Int32), ∃ (g2 : Nat → Int32), va_P (dC, dI) vwCl [(h0, .inr (8, [.ref sn, .ref sw, .ref ss])), (sn, .inl (cK, 4, .inr (.inr (.inr (.inr (fun i => if i = 0 then some r0 else if i = 1 then some r1 else if i = 2 then some r2 else if i = 3 then some r3 else none)))))), (r0, .inl (cJ, 60, .inr (.inl (fun _ => 0)))), (r1, .inl (cJ, 60, .inr (.inl (fun _ => 0)))), (r2, .inl (cJ, 60, .inr (.inl (fun _ => 0)))), (r3, .inl (cJ, 60, .inr (.inl (fun _ => 0)))), (sw, .inl (cI, 4, .inl (g1))), (ss, .inl (cI, 4, .inl (g2)))] t.heap ∧ va_K (dC, dI) vwCl [(cI, .int), (cJ, .long), (cK, .array .long)] t ∧ va_D (va_A [(h0, .inr (8, [.ref sn, .ref sw, .ref ss])), (sn, .inl (cK, 4, .inr (.inr (.inr (.inr (fun i => if i = 0 then some r0 else if i = 1 then some r1 else if i = 2 then some r2 else if i = 3 then some r3 else none)))))), (r0, .inl (cJ, 60, .inr (.inl (fun _ => 0)))), (r1, .inl (cJ, 60, .inr (.inl (fun _ => 0)))), (r2, .inl (cJ, 60, .inr (.inl (fun _ => 0)))), (r3, .inl (cJ, 60, .inr (.inl (fun _ => 0)))), (sw, .inl (cI, 4, .inl (fun _ => 0))), (ss, .inl (cI, 4, .inl (fun _ => (-1))))] sz) [(h0, .inr (8, [.ref sn, .ref sw, .ref ss])), (sn, .inl (cK, 4, .inr (.inr (.inr (.inr (fun i => if i = 0 then some r0 else if i = 1 then some r1 else if i = 2 then some r2 else if i = 3 then some r3 else none)))))), (r0, .inl (cJ, 60, .inr (.inl (fun _ => 0)))), (r1, .inl (cJ, 60, .inr (.inl (fun _ => 0)))), (r2, .inl (cJ, 60, .inr (.inl (fun _ => 0)))), (r3, .inl (cJ, 60, .inr (.inl (fun _ => 0)))), (sw, .inl (cI, 4, .inl (g1))), (ss, .inl (cI, 4, .inl (g2)))]) (va_A [(h0, .inr (8, [.ref sn, .ref sw, .ref ss])), (sn, .inl (cK, 4, .inr (.inr (.inr (.inr (fun i => if i = 0 then some r0 else if i = 1 then some r1 else if i = 2 then some r2 else if i = 3 then some r3 else none)))))), (r0, .inl (cJ, 60, .inr (.inl (fun _ => 0)))), (r1, .inl (cJ, 60, .inr (.inl (fun _ => 0)))), (r2, .inl (cJ, 60, .inr (.inl (fun _ => 0)))), (r3, .inl (cJ, 60, .inr (.inl (fun _ => 0)))), (sw, .inl (cI, 4, .inl (fun _ => 0))), (ss, .inl (cI, 4, .inl (fun _ => (-1))))] sz)) 0 0 (va_A [(h0, .inr (8, [.ref sn, .ref sw, .ref ss])), (sn, .inl (cK, 4, .inr (.inr (.inr (.inr (fun i => if i = 0 then some r0 else if i = 1 then some r1 else if i = 2 then some r2 else if i = 3 then some r3 else none)))))), (r0, .inl (cJ, 60, .inr (.inl (fun _ => 0)))), (r1, .inl (cJ, 60, .inr (.inl (fun _ => 0)))), (r2, .inl (cJ, 60, .inr (.inl (fun _ => 0)))), (r3, .inl (cJ, 60, .inr (.inl (fun _ => 0)))), (sw, .inl (cI, 4, .inl (fun _ => 0))), (ss, .inl (cI, 4, .inl (fun _ => (-1))))] sz) := by
  refine Met.ofW (cc := cX8_lay) (maxL := 4) (ret := none) (by decide) rfl ?_
  intro p e s m args below meth c s₁ B hml hv
  obtain ⟨rfl, hsz, hP, hK, hD0⟩ := hv
  have hx := B.exec
  have hb := B.bytes
  have hr := B.returns
  have hts := atoms_spec (ws := w_c_X8_lay_0) B.pre
  have hown : s.vm.findClass RX8 = some m.cls := findClass_of_methodNamed B.named
  have hlocks := B.notSynchronized
  subst hsz
  have hD := hD0.self (sz := s.heap.size)
  generalize hAe : va_A [(h0, .inr (8, [.ref sn, .ref sw, .ref ss])), (sn, .inl (cK, 4, .inr (.inr (.inr (.inr (fun i => if i = 0 then some r0 else if i = 1 then some r1 else if i = 2 then some r2 else if i = 3 then some r3 else none)))))), (r0, .inl (cJ, 60, .inr (.inl (fun _ => 0)))), (r1, .inl (cJ, 60, .inr (.inl (fun _ => 0)))), (r2, .inl (cJ, 60, .inr (.inl (fun _ => 0)))), (r3, .inl (cJ, 60, .inr (.inl (fun _ => 0)))), (sw, .inl (cI, 4, .inl (fun _ => 0))), (ss, .inl (cI, 4, .inl (fun _ => (-1))))] s.heap.size = A at hD ⊢
  have hA : ∀ q : Nat, s.heap.size ≤ q → A q := fun q h => by rw [← hAe]; exact Or.inr h
  have hS : va_S A s.heap s.heap [] := va_S.rf
  have hP : va_P (dC, dI) vwCl [(h0, .inr (8, [.ref sn, .ref sw, .ref ss])), (sn, .inl (cK, 4, .inr (.inr (.inr (.inr (fun i => if i = 0 then some r0 else if i = 1 then some r1 else if i = 2 then some r2 else if i = 3 then some r3 else none)))))), (r0, .inl (cJ, 60, .inr (.inl (fun _ => 0)))), (r1, .inl (cJ, 60, .inr (.inl (fun _ => 0)))), (r2, .inl (cJ, 60, .inr (.inl (fun _ => 0)))), (r3, .inl (cJ, 60, .inr (.inl (fun _ => 0)))), (sw, .inl (cI, 4, .inl (fun _ => 0))), (ss, .inl (cI, 4, .inl (fun _ => (-1))))] s.heap := hP
  have hl := lv_entry ([.ref h0, .int p0, .int p1, .int p2]) (n := 4) (Nat.le_of_ble_eq_true rfl)
  rw [lg_entry_eq]
  generalize (lg_sl ([.ref h0, .int p0, .int p1, .int p2]) ++ List.replicate (4 - (lg_sl ([.ref h0, .int p0, .int p1, .int p2])).length) Slot.unset).toArray = ls at hl ⊢
  have hl : lv_has ls 4 [(0, .ref h0), (1, .int p0), (2, .int p1), (3, .int p2)] := hl
  rcases wx_c4 hp with c4 | c4 | c4 | c4
  · subst c4
    refine lv_aload_n hx hb dX8_lay_0 rfl (lv_at hl 0 rfl) ?_
    refine va_get (D := (dC, dI)) (ci := 8) (v := .ref sw) (C := RX8) (T := TX8) (N := 3) hx hb hts i_c_X8_lay_0_X8 hown hK hP 0 rfl rfl 1 (by decide) (hts (.fieldLink RX8 16 "OnePassport$Slots" "width" "[I") (List.mem_of_getElem? (i := 1) rfl)) (fun _ h9 => h9) rfl dX8_lay_1 ?_
    refine lv_iload_n hx hb dX8_lay_4 rfl (lv_at hl 1 rfl) ?_
    refine lv_iload_n hx hb dX8_lay_5 rfl (lv_at hl 2 rfl) ?_
    refine va_iast hx hb hK hP hD hS 6 0 rfl rfl (i := 0) (x := p1) (by unfold vp_in; decide) dX8_lay_6 (fun H locs hP hD hS => ?_)
    have hP : va_P (dC, dI) vwCl [(h0, .inr (8, [.ref sn, .ref sw, .ref ss])), (sn, .inl (cK, 4, .inr (.inr (.inr (.inr (fun i => if i = 0 then some r0 else if i = 1 then some r1 else if i = 2 then some r2 else if i = 3 then some r3 else none)))))), (r0, .inl (cJ, 60, .inr (.inl (fun _ => 0)))), (r1, .inl (cJ, 60, .inr (.inl (fun _ => 0)))), (r2, .inl (cJ, 60, .inr (.inl (fun _ => 0)))), (r3, .inl (cJ, 60, .inr (.inl (fun _ => 0)))), (sw, .inl (cI, 4, .inl (upd (fun _ => 0) (0 : Int32).toNatClampNeg p1))), (ss, .inl (cI, 4, .inl (fun _ => (-1))))] H := hP
    have hD : va_D A [(h0, .inr (8, [.ref sn, .ref sw, .ref ss])), (sn, .inl (cK, 4, .inr (.inr (.inr (.inr (fun i => if i = 0 then some r0 else if i = 1 then some r1 else if i = 2 then some r2 else if i = 3 then some r3 else none)))))), (r0, .inl (cJ, 60, .inr (.inl (fun _ => 0)))), (r1, .inl (cJ, 60, .inr (.inl (fun _ => 0)))), (r2, .inl (cJ, 60, .inr (.inl (fun _ => 0)))), (r3, .inl (cJ, 60, .inr (.inl (fun _ => 0)))), (sw, .inl (cI, 4, .inl (upd (fun _ => 0) (0 : Int32).toNatClampNeg p1))), (ss, .inl (cI, 4, .inl (fun _ => (-1))))] := hD
    refine lv_aload_n hx hb dX8_lay_7 rfl (lv_at hl 0 rfl) ?_
    refine va_get (D := (dC, dI)) (ci := 8) (v := .ref ss) (C := RX8) (T := TX8) (N := 3) hx hb hts i_c_X8_lay_0_X8 hown hK hP 0 rfl rfl 2 (by decide) (hts (.fieldLink RX8 20 "OnePassport$Slots" "size" "[I") (List.mem_of_getElem? (i := 2) rfl)) (fun _ h9 => h9) rfl dX8_lay_8 ?_
    refine lv_iload_n hx hb dX8_lay_11 rfl (lv_at hl 1 rfl) ?_
    refine lv_iload_n hx hb dX8_lay_12 rfl (lv_at hl 3 rfl) ?_
    refine va_iast hx hb hK hP hD hS 7 0 rfl rfl (i := 0) (x := p2) (by unfold vp_in; decide) dX8_lay_13 (fun H locs hP hD hS => ?_)
    have hP : va_P (dC, dI) vwCl [(h0, .inr (8, [.ref sn, .ref sw, .ref ss])), (sn, .inl (cK, 4, .inr (.inr (.inr (.inr (fun i => if i = 0 then some r0 else if i = 1 then some r1 else if i = 2 then some r2 else if i = 3 then some r3 else none)))))), (r0, .inl (cJ, 60, .inr (.inl (fun _ => 0)))), (r1, .inl (cJ, 60, .inr (.inl (fun _ => 0)))), (r2, .inl (cJ, 60, .inr (.inl (fun _ => 0)))), (r3, .inl (cJ, 60, .inr (.inl (fun _ => 0)))), (sw, .inl (cI, 4, .inl (upd (fun _ => 0) (0 : Int32).toNatClampNeg p1))), (ss, .inl (cI, 4, .inl (upd (fun _ => (-1)) (0 : Int32).toNatClampNeg p2)))] H := hP
    have hD : va_D A [(h0, .inr (8, [.ref sn, .ref sw, .ref ss])), (sn, .inl (cK, 4, .inr (.inr (.inr (.inr (fun i => if i = 0 then some r0 else if i = 1 then some r1 else if i = 2 then some r2 else if i = 3 then some r3 else none)))))), (r0, .inl (cJ, 60, .inr (.inl (fun _ => 0)))), (r1, .inl (cJ, 60, .inr (.inl (fun _ => 0)))), (r2, .inl (cJ, 60, .inr (.inl (fun _ => 0)))), (r3, .inl (cJ, 60, .inr (.inl (fun _ => 0)))), (sw, .inl (cI, 4, .inl (upd (fun _ => 0) (0 : Int32).toNatClampNeg p1))), (ss, .inl (cI, 4, .inl (upd (fun _ => (-1)) (0 : Int32).toNatClampNeg p2)))] := hD
    refine lv_aload_n hx hb dX8_lay_14 rfl (lv_at hl 0 rfl) ?_
    refine va_get (D := (dC, dI)) (ci := 8) (v := .ref sn) (C := RX8) (T := TX8) (N := 3) hx hb hts i_c_X8_lay_0_X8 hown hK hP 0 rfl rfl 0 (by decide) (hts (.fieldLink RX8 13 "OnePassport$Slots" "numbers" "[[J") (List.mem_of_getElem? (i := 3) rfl)) (fun _ h9 => h9) rfl dX8_lay_15 ?_
    refine lv_iload_n hx hb dX8_lay_18 rfl (lv_at hl 1 rfl) ?_
    refine wx_aldJ hx hb hK hP 1 2 rfl rfl (i := 0) (by unfold vp_in; decide) dX8_lay_19 ?_
    refine wx_tv (y := .ref r0) rfl ?_
    refine lv_lconst (v := 0) hx hb dX8_lay_20 (by decide) ?_
    have hPc := hP.sub (ws' := [(r0, .inl (cJ, 60, .inr (.inl (fun _ => 0))))]) [2] rfl
    have hDc := hD.sub (ws' := [(r0, .inl (cJ, 60, .inr (.inl (fun _ => 0))))]) [2] (by decide) rfl
    have hKc := hK.sub (tys' := [(cJ, .long)]) [1] rfl
    have hFc := va_free (wc := [(r0, .inl (cJ, 60, .inr (.inl (fun _ => 0))))]) hD hS hA [2] rfl
    refine va_callv (va_runS (As := [.ref r0, .long 0]) (rest := []) ⟨hx, hb, hml, hown, hts⟩ (c_fillJ l dC dI cJ r0 60 (fun _ => 0) 0 (by decide) H.size) (va_cwS 2 hts g_c_X8_lay_0_0 rfl rfl rfl (by decide +kernel) ⟨Nat.le_of_ble_eq_true rfl, Nat.le_of_ble_eq_true rfl⟩) ⟨fun a U g mk q => by obtain ⟨q0, q1, qP, qK, qD⟩ := q; exact ⟨q0, q1, qP, va_K.moved (u := U) (U := U.calling g mk a) (Vm.Alike.refl U.vm) qK, qD⟩, fun U hU hW => ⟨rfl, by rw [hU], by rw [hU]; exact hPc, va_K.moved hW.alike hKc, hDc.weaken (fun _ _ _ _ => trivial)⟩⟩ rfl rfl hl.1 rfl (lv_room (Nat.le_of_ble_eq_true rfl)) dX8_lay_21 ⟨Nat.le_of_ble_eq_true rfl, Nat.le_of_ble_eq_true rfl⟩) hS (fun q _ h => hFc q h) hFc (fun u t H1 locs ht hvm hw hB hz1 hk1 hS => ?_)
    obtain ⟨hP1, hK1, hD1⟩ := hB
    rw [ht] at hP1
    try dsimp only at hw
    obtain ⟨hP, hD⟩ := va_join (wr := [(h0, .inr (8, [.ref sn, .ref sw, .ref ss])), (sn, .inl (cK, 4, .inr (.inr (.inr (.inr (fun i => if i = 0 then some r0 else if i = 1 then some r1 else if i = 2 then some r2 else if i = 3 then some r3 else none)))))), (r1, .inl (cJ, 60, .inr (.inl (fun _ => 0)))), (r2, .inl (cJ, 60, .inr (.inl (fun _ => 0)))), (r3, .inl (cJ, 60, .inr (.inl (fun _ => 0)))), (sw, .inl (cI, 4, .inl (upd (fun _ => 0) (0 : Int32).toNatClampNeg p1))), (ss, .inl (cI, 4, .inl (upd (fun _ => (-1)) (0 : Int32).toNatClampNeg p2)))]) (w1 := [(r0, .inl (cJ, 60, .inr (.inl (fun _ => 0))))]) hP hD [2] [0, 1, 3, 4, 5, 6, 7] rfl rfl (by decide) (by decide) hk1 hFc hP1 hD1
    clear hPc hDc hKc hFc hk1 hP1 hK1 hD1
    generalize H1 = H at hP hS ⊢
    have hP : va_P (dC, dI) vwCl [(h0, .inr (8, [.ref sn, .ref sw, .ref ss])), (sn, .inl (cK, 4, .inr (.inr (.inr (.inr (fun i => if i = 0 then some r0 else if i = 1 then some r1 else if i = 2 then some r2 else if i = 3 then some r3 else none)))))), (r1, .inl (cJ, 60, .inr (.inl (fun _ => 0)))), (r2, .inl (cJ, 60, .inr (.inl (fun _ => 0)))), (r3, .inl (cJ, 60, .inr (.inl (fun _ => 0)))), (sw, .inl (cI, 4, .inl (upd (fun _ => 0) (0 : Int32).toNatClampNeg p1))), (ss, .inl (cI, 4, .inl (upd (fun _ => (-1)) (0 : Int32).toNatClampNeg p2))), (r0, .inl (cJ, 60, .inr (.inl (fun _ => 0))))] H := hP
    have hD : va_D A [(h0, .inr (8, [.ref sn, .ref sw, .ref ss])), (sn, .inl (cK, 4, .inr (.inr (.inr (.inr (fun i => if i = 0 then some r0 else if i = 1 then some r1 else if i = 2 then some r2 else if i = 3 then some r3 else none)))))), (r1, .inl (cJ, 60, .inr (.inl (fun _ => 0)))), (r2, .inl (cJ, 60, .inr (.inl (fun _ => 0)))), (r3, .inl (cJ, 60, .inr (.inl (fun _ => 0)))), (sw, .inl (cI, 4, .inl (upd (fun _ => 0) (0 : Int32).toNatClampNeg p1))), (ss, .inl (cI, 4, .inl (upd (fun _ => (-1)) (0 : Int32).toNatClampNeg p2))), (r0, .inl (cJ, 60, .inr (.inl (fun _ => 0))))] := hD
    have hP9 := hP.sub (ws' := [(h0, .inr (8, [.ref sn, .ref sw, .ref ss])), (sn, .inl (cK, 4, .inr (.inr (.inr (.inr (fun i => if i = 0 then some r0 else if i = 1 then some r1 else if i = 2 then some r2 else if i = 3 then some r3 else none)))))), (r0, .inl (cJ, 60, .inr (.inl (fun _ => 0)))), (r1, .inl (cJ, 60, .inr (.inl (fun _ => 0)))), (r2, .inl (cJ, 60, .inr (.inl (fun _ => 0)))), (r3, .inl (cJ, 60, .inr (.inl (fun _ => 0)))), (sw, .inl (cI, 4, .inl ((upd (fun _ => 0) (0 : Int32).toNatClampNeg p1)))), (ss, .inl (cI, 4, .inl ((upd (fun _ => (-1)) (0 : Int32).toNatClampNeg p2))))]) [0, 1, 7, 2, 3, 4, 5, 6] rfl
    have hD9 := hD.sub (ws' := [(h0, .inr (8, [.ref sn, .ref sw, .ref ss])), (sn, .inl (cK, 4, .inr (.inr (.inr (.inr (fun i => if i = 0 then some r0 else if i = 1 then some r1 else if i = 2 then some r2 else if i = 3 then some r3 else none)))))), (r0, .inl (cJ, 60, .inr (.inl (fun _ => 0)))), (r1, .inl (cJ, 60, .inr (.inl (fun _ => 0)))), (r2, .inl (cJ, 60, .inr (.inl (fun _ => 0)))), (r3, .inl (cJ, 60, .inr (.inl (fun _ => 0)))), (sw, .inl (cI, 4, .inl ((upd (fun _ => 0) (0 : Int32).toNatClampNeg p1)))), (ss, .inl (cI, 4, .inl ((upd (fun _ => (-1)) (0 : Int32).toNatClampNeg p2))))]) [0, 1, 7, 2, 3, 4, 5, 6] (by decide) rfl
    exact W.vret hx hb hr (fun t ht hW => ⟨⟨(), rfl, trivial, (upd (fun _ => 0) (0 : Int32).toNatClampNeg p1), (upd (fun _ => (-1)) (0 : Int32).toNatClampNeg p2), by rw [ht]; exact hP9, va_K.moved hW.alike hK, hD9⟩, hS.F ht⟩) hS.2.2 dX8_lay_24
  · subst c4
    refine lv_aload_n hx hb dX8_lay_0 rfl (lv_at hl 0 rfl) ?_
    refine va_get (D := (dC, dI)) (ci := 8) (v := .ref sw) (C := RX8) (T := TX8) (N := 3) hx hb hts i_c_X8_lay_0_X8 hown hK hP 0 rfl rfl 1 (by decide) (hts (.fieldLink RX8 16 "OnePassport$Slots" "width" "[I") (List.mem_of_getElem? (i := 1) rfl)) (fun _ h9 => h9) rfl dX8_lay_1 ?_
    refine lv_iload_n hx hb dX8_lay_4 rfl (lv_at hl 1 rfl) ?_
    refine lv_iload_n hx hb dX8_lay_5 rfl (lv_at hl 2 rfl) ?_
    refine va_iast hx hb hK hP hD hS 6 0 rfl rfl (i := 1) (x := p1) (by unfold vp_in; decide) dX8_lay_6 (fun H locs hP hD hS => ?_)
    have hP : va_P (dC, dI) vwCl [(h0, .inr (8, [.ref sn, .ref sw, .ref ss])), (sn, .inl (cK, 4, .inr (.inr (.inr (.inr (fun i => if i = 0 then some r0 else if i = 1 then some r1 else if i = 2 then some r2 else if i = 3 then some r3 else none)))))), (r0, .inl (cJ, 60, .inr (.inl (fun _ => 0)))), (r1, .inl (cJ, 60, .inr (.inl (fun _ => 0)))), (r2, .inl (cJ, 60, .inr (.inl (fun _ => 0)))), (r3, .inl (cJ, 60, .inr (.inl (fun _ => 0)))), (sw, .inl (cI, 4, .inl (upd (fun _ => 0) (1 : Int32).toNatClampNeg p1))), (ss, .inl (cI, 4, .inl (fun _ => (-1))))] H := hP
    have hD : va_D A [(h0, .inr (8, [.ref sn, .ref sw, .ref ss])), (sn, .inl (cK, 4, .inr (.inr (.inr (.inr (fun i => if i = 0 then some r0 else if i = 1 then some r1 else if i = 2 then some r2 else if i = 3 then some r3 else none)))))), (r0, .inl (cJ, 60, .inr (.inl (fun _ => 0)))), (r1, .inl (cJ, 60, .inr (.inl (fun _ => 0)))), (r2, .inl (cJ, 60, .inr (.inl (fun _ => 0)))), (r3, .inl (cJ, 60, .inr (.inl (fun _ => 0)))), (sw, .inl (cI, 4, .inl (upd (fun _ => 0) (1 : Int32).toNatClampNeg p1))), (ss, .inl (cI, 4, .inl (fun _ => (-1))))] := hD
    refine lv_aload_n hx hb dX8_lay_7 rfl (lv_at hl 0 rfl) ?_
    refine va_get (D := (dC, dI)) (ci := 8) (v := .ref ss) (C := RX8) (T := TX8) (N := 3) hx hb hts i_c_X8_lay_0_X8 hown hK hP 0 rfl rfl 2 (by decide) (hts (.fieldLink RX8 20 "OnePassport$Slots" "size" "[I") (List.mem_of_getElem? (i := 2) rfl)) (fun _ h9 => h9) rfl dX8_lay_8 ?_
    refine lv_iload_n hx hb dX8_lay_11 rfl (lv_at hl 1 rfl) ?_
    refine lv_iload_n hx hb dX8_lay_12 rfl (lv_at hl 3 rfl) ?_
    refine va_iast hx hb hK hP hD hS 7 0 rfl rfl (i := 1) (x := p2) (by unfold vp_in; decide) dX8_lay_13 (fun H locs hP hD hS => ?_)
    have hP : va_P (dC, dI) vwCl [(h0, .inr (8, [.ref sn, .ref sw, .ref ss])), (sn, .inl (cK, 4, .inr (.inr (.inr (.inr (fun i => if i = 0 then some r0 else if i = 1 then some r1 else if i = 2 then some r2 else if i = 3 then some r3 else none)))))), (r0, .inl (cJ, 60, .inr (.inl (fun _ => 0)))), (r1, .inl (cJ, 60, .inr (.inl (fun _ => 0)))), (r2, .inl (cJ, 60, .inr (.inl (fun _ => 0)))), (r3, .inl (cJ, 60, .inr (.inl (fun _ => 0)))), (sw, .inl (cI, 4, .inl (upd (fun _ => 0) (1 : Int32).toNatClampNeg p1))), (ss, .inl (cI, 4, .inl (upd (fun _ => (-1)) (1 : Int32).toNatClampNeg p2)))] H := hP
    have hD : va_D A [(h0, .inr (8, [.ref sn, .ref sw, .ref ss])), (sn, .inl (cK, 4, .inr (.inr (.inr (.inr (fun i => if i = 0 then some r0 else if i = 1 then some r1 else if i = 2 then some r2 else if i = 3 then some r3 else none)))))), (r0, .inl (cJ, 60, .inr (.inl (fun _ => 0)))), (r1, .inl (cJ, 60, .inr (.inl (fun _ => 0)))), (r2, .inl (cJ, 60, .inr (.inl (fun _ => 0)))), (r3, .inl (cJ, 60, .inr (.inl (fun _ => 0)))), (sw, .inl (cI, 4, .inl (upd (fun _ => 0) (1 : Int32).toNatClampNeg p1))), (ss, .inl (cI, 4, .inl (upd (fun _ => (-1)) (1 : Int32).toNatClampNeg p2)))] := hD
    refine lv_aload_n hx hb dX8_lay_14 rfl (lv_at hl 0 rfl) ?_
    refine va_get (D := (dC, dI)) (ci := 8) (v := .ref sn) (C := RX8) (T := TX8) (N := 3) hx hb hts i_c_X8_lay_0_X8 hown hK hP 0 rfl rfl 0 (by decide) (hts (.fieldLink RX8 13 "OnePassport$Slots" "numbers" "[[J") (List.mem_of_getElem? (i := 3) rfl)) (fun _ h9 => h9) rfl dX8_lay_15 ?_
    refine lv_iload_n hx hb dX8_lay_18 rfl (lv_at hl 1 rfl) ?_
    refine wx_aldJ hx hb hK hP 1 2 rfl rfl (i := 1) (by unfold vp_in; decide) dX8_lay_19 ?_
    refine wx_tv (y := .ref r1) rfl ?_
    refine lv_lconst (v := 0) hx hb dX8_lay_20 (by decide) ?_
    have hPc := hP.sub (ws' := [(r1, .inl (cJ, 60, .inr (.inl (fun _ => 0))))]) [3] rfl
    have hDc := hD.sub (ws' := [(r1, .inl (cJ, 60, .inr (.inl (fun _ => 0))))]) [3] (by decide) rfl
    have hKc := hK.sub (tys' := [(cJ, .long)]) [1] rfl
    have hFc := va_free (wc := [(r1, .inl (cJ, 60, .inr (.inl (fun _ => 0))))]) hD hS hA [3] rfl
    refine va_callv (va_runS (As := [.ref r1, .long 0]) (rest := []) ⟨hx, hb, hml, hown, hts⟩ (c_fillJ l dC dI cJ r1 60 (fun _ => 0) 0 (by decide) H.size) (va_cwS 2 hts g_c_X8_lay_0_0 rfl rfl rfl (by decide +kernel) ⟨Nat.le_of_ble_eq_true rfl, Nat.le_of_ble_eq_true rfl⟩) ⟨fun a U g mk q => by obtain ⟨q0, q1, qP, qK, qD⟩ := q; exact ⟨q0, q1, qP, va_K.moved (u := U) (U := U.calling g mk a) (Vm.Alike.refl U.vm) qK, qD⟩, fun U hU hW => ⟨rfl, by rw [hU], by rw [hU]; exact hPc, va_K.moved hW.alike hKc, hDc.weaken (fun _ _ _ _ => trivial)⟩⟩ rfl rfl hl.1 rfl (lv_room (Nat.le_of_ble_eq_true rfl)) dX8_lay_21 ⟨Nat.le_of_ble_eq_true rfl, Nat.le_of_ble_eq_true rfl⟩) hS (fun q _ h => hFc q h) hFc (fun u t H1 locs ht hvm hw hB hz1 hk1 hS => ?_)
    obtain ⟨hP1, hK1, hD1⟩ := hB
    rw [ht] at hP1
    try dsimp only at hw
    obtain ⟨hP, hD⟩ := va_join (wr := [(h0, .inr (8, [.ref sn, .ref sw, .ref ss])), (sn, .inl (cK, 4, .inr (.inr (.inr (.inr (fun i => if i = 0 then some r0 else if i = 1 then some r1 else if i = 2 then some r2 else if i = 3 then some r3 else none)))))), (r0, .inl (cJ, 60, .inr (.inl (fun _ => 0)))), (r2, .inl (cJ, 60, .inr (.inl (fun _ => 0)))), (r3, .inl (cJ, 60, .inr (.inl (fun _ => 0)))), (sw, .inl (cI, 4, .inl (upd (fun _ => 0) (1 : Int32).toNatClampNeg p1))), (ss, .inl (cI, 4, .inl (upd (fun _ => (-1)) (1 : Int32).toNatClampNeg p2)))]) (w1 := [(r1, .inl (cJ, 60, .inr (.inl (fun _ => 0))))]) hP hD [3] [0, 1, 2, 4, 5, 6, 7] rfl rfl (by decide) (by decide) hk1 hFc hP1 hD1
    clear hPc hDc hKc hFc hk1 hP1 hK1 hD1
    generalize H1 = H at hP hS ⊢
    have hP : va_P (dC, dI) vwCl [(h0, .inr (8, [.ref sn, .ref sw, .ref ss])), (sn, .inl (cK, 4, .inr (.inr (.inr (.inr (fun i => if i = 0 then some r0 else if i = 1 then some r1 else if i = 2 then some r2 else if i = 3 then some r3 else none)))))), (r0, .inl (cJ, 60, .inr (.inl (fun _ => 0)))), (r2, .inl (cJ, 60, .inr (.inl (fun _ => 0)))), (r3, .inl (cJ, 60, .inr (.inl (fun _ => 0)))), (sw, .inl (cI, 4, .inl (upd (fun _ => 0) (1 : Int32).toNatClampNeg p1))), (ss, .inl (cI, 4, .inl (upd (fun _ => (-1)) (1 : Int32).toNatClampNeg p2))), (r1, .inl (cJ, 60, .inr (.inl (fun _ => 0))))] H := hP
    have hD : va_D A [(h0, .inr (8, [.ref sn, .ref sw, .ref ss])), (sn, .inl (cK, 4, .inr (.inr (.inr (.inr (fun i => if i = 0 then some r0 else if i = 1 then some r1 else if i = 2 then some r2 else if i = 3 then some r3 else none)))))), (r0, .inl (cJ, 60, .inr (.inl (fun _ => 0)))), (r2, .inl (cJ, 60, .inr (.inl (fun _ => 0)))), (r3, .inl (cJ, 60, .inr (.inl (fun _ => 0)))), (sw, .inl (cI, 4, .inl (upd (fun _ => 0) (1 : Int32).toNatClampNeg p1))), (ss, .inl (cI, 4, .inl (upd (fun _ => (-1)) (1 : Int32).toNatClampNeg p2))), (r1, .inl (cJ, 60, .inr (.inl (fun _ => 0))))] := hD
    have hP9 := hP.sub (ws' := [(h0, .inr (8, [.ref sn, .ref sw, .ref ss])), (sn, .inl (cK, 4, .inr (.inr (.inr (.inr (fun i => if i = 0 then some r0 else if i = 1 then some r1 else if i = 2 then some r2 else if i = 3 then some r3 else none)))))), (r0, .inl (cJ, 60, .inr (.inl (fun _ => 0)))), (r1, .inl (cJ, 60, .inr (.inl (fun _ => 0)))), (r2, .inl (cJ, 60, .inr (.inl (fun _ => 0)))), (r3, .inl (cJ, 60, .inr (.inl (fun _ => 0)))), (sw, .inl (cI, 4, .inl ((upd (fun _ => 0) (1 : Int32).toNatClampNeg p1)))), (ss, .inl (cI, 4, .inl ((upd (fun _ => (-1)) (1 : Int32).toNatClampNeg p2))))]) [0, 1, 2, 7, 3, 4, 5, 6] rfl
    have hD9 := hD.sub (ws' := [(h0, .inr (8, [.ref sn, .ref sw, .ref ss])), (sn, .inl (cK, 4, .inr (.inr (.inr (.inr (fun i => if i = 0 then some r0 else if i = 1 then some r1 else if i = 2 then some r2 else if i = 3 then some r3 else none)))))), (r0, .inl (cJ, 60, .inr (.inl (fun _ => 0)))), (r1, .inl (cJ, 60, .inr (.inl (fun _ => 0)))), (r2, .inl (cJ, 60, .inr (.inl (fun _ => 0)))), (r3, .inl (cJ, 60, .inr (.inl (fun _ => 0)))), (sw, .inl (cI, 4, .inl ((upd (fun _ => 0) (1 : Int32).toNatClampNeg p1)))), (ss, .inl (cI, 4, .inl ((upd (fun _ => (-1)) (1 : Int32).toNatClampNeg p2))))]) [0, 1, 2, 7, 3, 4, 5, 6] (by decide) rfl
    exact W.vret hx hb hr (fun t ht hW => ⟨⟨(), rfl, trivial, (upd (fun _ => 0) (1 : Int32).toNatClampNeg p1), (upd (fun _ => (-1)) (1 : Int32).toNatClampNeg p2), by rw [ht]; exact hP9, va_K.moved hW.alike hK, hD9⟩, hS.F ht⟩) hS.2.2 dX8_lay_24
  · subst c4
    refine lv_aload_n hx hb dX8_lay_0 rfl (lv_at hl 0 rfl) ?_
    refine va_get (D := (dC, dI)) (ci := 8) (v := .ref sw) (C := RX8) (T := TX8) (N := 3) hx hb hts i_c_X8_lay_0_X8 hown hK hP 0 rfl rfl 1 (by decide) (hts (.fieldLink RX8 16 "OnePassport$Slots" "width" "[I") (List.mem_of_getElem? (i := 1) rfl)) (fun _ h9 => h9) rfl dX8_lay_1 ?_
    refine lv_iload_n hx hb dX8_lay_4 rfl (lv_at hl 1 rfl) ?_
    refine lv_iload_n hx hb dX8_lay_5 rfl (lv_at hl 2 rfl) ?_
    refine va_iast hx hb hK hP hD hS 6 0 rfl rfl (i := 2) (x := p1) (by unfold vp_in; decide) dX8_lay_6 (fun H locs hP hD hS => ?_)
    have hP : va_P (dC, dI) vwCl [(h0, .inr (8, [.ref sn, .ref sw, .ref ss])), (sn, .inl (cK, 4, .inr (.inr (.inr (.inr (fun i => if i = 0 then some r0 else if i = 1 then some r1 else if i = 2 then some r2 else if i = 3 then some r3 else none)))))), (r0, .inl (cJ, 60, .inr (.inl (fun _ => 0)))), (r1, .inl (cJ, 60, .inr (.inl (fun _ => 0)))), (r2, .inl (cJ, 60, .inr (.inl (fun _ => 0)))), (r3, .inl (cJ, 60, .inr (.inl (fun _ => 0)))), (sw, .inl (cI, 4, .inl (upd (fun _ => 0) (2 : Int32).toNatClampNeg p1))), (ss, .inl (cI, 4, .inl (fun _ => (-1))))] H := hP
    have hD : va_D A [(h0, .inr (8, [.ref sn, .ref sw, .ref ss])), (sn, .inl (cK, 4, .inr (.inr (.inr (.inr (fun i => if i = 0 then some r0 else if i = 1 then some r1 else if i = 2 then some r2 else if i = 3 then some r3 else none)))))), (r0, .inl (cJ, 60, .inr (.inl (fun _ => 0)))), (r1, .inl (cJ, 60, .inr (.inl (fun _ => 0)))), (r2, .inl (cJ, 60, .inr (.inl (fun _ => 0)))), (r3, .inl (cJ, 60, .inr (.inl (fun _ => 0)))), (sw, .inl (cI, 4, .inl (upd (fun _ => 0) (2 : Int32).toNatClampNeg p1))), (ss, .inl (cI, 4, .inl (fun _ => (-1))))] := hD
    refine lv_aload_n hx hb dX8_lay_7 rfl (lv_at hl 0 rfl) ?_
    refine va_get (D := (dC, dI)) (ci := 8) (v := .ref ss) (C := RX8) (T := TX8) (N := 3) hx hb hts i_c_X8_lay_0_X8 hown hK hP 0 rfl rfl 2 (by decide) (hts (.fieldLink RX8 20 "OnePassport$Slots" "size" "[I") (List.mem_of_getElem? (i := 2) rfl)) (fun _ h9 => h9) rfl dX8_lay_8 ?_
    refine lv_iload_n hx hb dX8_lay_11 rfl (lv_at hl 1 rfl) ?_
    refine lv_iload_n hx hb dX8_lay_12 rfl (lv_at hl 3 rfl) ?_
    refine va_iast hx hb hK hP hD hS 7 0 rfl rfl (i := 2) (x := p2) (by unfold vp_in; decide) dX8_lay_13 (fun H locs hP hD hS => ?_)
    have hP : va_P (dC, dI) vwCl [(h0, .inr (8, [.ref sn, .ref sw, .ref ss])), (sn, .inl (cK, 4, .inr (.inr (.inr (.inr (fun i => if i = 0 then some r0 else if i = 1 then some r1 else if i = 2 then some r2 else if i = 3 then some r3 else none)))))), (r0, .inl (cJ, 60, .inr (.inl (fun _ => 0)))), (r1, .inl (cJ, 60, .inr (.inl (fun _ => 0)))), (r2, .inl (cJ, 60, .inr (.inl (fun _ => 0)))), (r3, .inl (cJ, 60, .inr (.inl (fun _ => 0)))), (sw, .inl (cI, 4, .inl (upd (fun _ => 0) (2 : Int32).toNatClampNeg p1))), (ss, .inl (cI, 4, .inl (upd (fun _ => (-1)) (2 : Int32).toNatClampNeg p2)))] H := hP
    have hD : va_D A [(h0, .inr (8, [.ref sn, .ref sw, .ref ss])), (sn, .inl (cK, 4, .inr (.inr (.inr (.inr (fun i => if i = 0 then some r0 else if i = 1 then some r1 else if i = 2 then some r2 else if i = 3 then some r3 else none)))))), (r0, .inl (cJ, 60, .inr (.inl (fun _ => 0)))), (r1, .inl (cJ, 60, .inr (.inl (fun _ => 0)))), (r2, .inl (cJ, 60, .inr (.inl (fun _ => 0)))), (r3, .inl (cJ, 60, .inr (.inl (fun _ => 0)))), (sw, .inl (cI, 4, .inl (upd (fun _ => 0) (2 : Int32).toNatClampNeg p1))), (ss, .inl (cI, 4, .inl (upd (fun _ => (-1)) (2 : Int32).toNatClampNeg p2)))] := hD
    refine lv_aload_n hx hb dX8_lay_14 rfl (lv_at hl 0 rfl) ?_
    refine va_get (D := (dC, dI)) (ci := 8) (v := .ref sn) (C := RX8) (T := TX8) (N := 3) hx hb hts i_c_X8_lay_0_X8 hown hK hP 0 rfl rfl 0 (by decide) (hts (.fieldLink RX8 13 "OnePassport$Slots" "numbers" "[[J") (List.mem_of_getElem? (i := 3) rfl)) (fun _ h9 => h9) rfl dX8_lay_15 ?_
    refine lv_iload_n hx hb dX8_lay_18 rfl (lv_at hl 1 rfl) ?_
    refine wx_aldJ hx hb hK hP 1 2 rfl rfl (i := 2) (by unfold vp_in; decide) dX8_lay_19 ?_
    refine wx_tv (y := .ref r2) rfl ?_
    refine lv_lconst (v := 0) hx hb dX8_lay_20 (by decide) ?_
    have hPc := hP.sub (ws' := [(r2, .inl (cJ, 60, .inr (.inl (fun _ => 0))))]) [4] rfl
    have hDc := hD.sub (ws' := [(r2, .inl (cJ, 60, .inr (.inl (fun _ => 0))))]) [4] (by decide) rfl
    have hKc := hK.sub (tys' := [(cJ, .long)]) [1] rfl
    have hFc := va_free (wc := [(r2, .inl (cJ, 60, .inr (.inl (fun _ => 0))))]) hD hS hA [4] rfl
    refine va_callv (va_runS (As := [.ref r2, .long 0]) (rest := []) ⟨hx, hb, hml, hown, hts⟩ (c_fillJ l dC dI cJ r2 60 (fun _ => 0) 0 (by decide) H.size) (va_cwS 2 hts g_c_X8_lay_0_0 rfl rfl rfl (by decide +kernel) ⟨Nat.le_of_ble_eq_true rfl, Nat.le_of_ble_eq_true rfl⟩) ⟨fun a U g mk q => by obtain ⟨q0, q1, qP, qK, qD⟩ := q; exact ⟨q0, q1, qP, va_K.moved (u := U) (U := U.calling g mk a) (Vm.Alike.refl U.vm) qK, qD⟩, fun U hU hW => ⟨rfl, by rw [hU], by rw [hU]; exact hPc, va_K.moved hW.alike hKc, hDc.weaken (fun _ _ _ _ => trivial)⟩⟩ rfl rfl hl.1 rfl (lv_room (Nat.le_of_ble_eq_true rfl)) dX8_lay_21 ⟨Nat.le_of_ble_eq_true rfl, Nat.le_of_ble_eq_true rfl⟩) hS (fun q _ h => hFc q h) hFc (fun u t H1 locs ht hvm hw hB hz1 hk1 hS => ?_)
    obtain ⟨hP1, hK1, hD1⟩ := hB
    rw [ht] at hP1
    try dsimp only at hw
    obtain ⟨hP, hD⟩ := va_join (wr := [(h0, .inr (8, [.ref sn, .ref sw, .ref ss])), (sn, .inl (cK, 4, .inr (.inr (.inr (.inr (fun i => if i = 0 then some r0 else if i = 1 then some r1 else if i = 2 then some r2 else if i = 3 then some r3 else none)))))), (r0, .inl (cJ, 60, .inr (.inl (fun _ => 0)))), (r1, .inl (cJ, 60, .inr (.inl (fun _ => 0)))), (r3, .inl (cJ, 60, .inr (.inl (fun _ => 0)))), (sw, .inl (cI, 4, .inl (upd (fun _ => 0) (2 : Int32).toNatClampNeg p1))), (ss, .inl (cI, 4, .inl (upd (fun _ => (-1)) (2 : Int32).toNatClampNeg p2)))]) (w1 := [(r2, .inl (cJ, 60, .inr (.inl (fun _ => 0))))]) hP hD [4] [0, 1, 2, 3, 5, 6, 7] rfl rfl (by decide) (by decide) hk1 hFc hP1 hD1
    clear hPc hDc hKc hFc hk1 hP1 hK1 hD1
    generalize H1 = H at hP hS ⊢
    have hP : va_P (dC, dI) vwCl [(h0, .inr (8, [.ref sn, .ref sw, .ref ss])), (sn, .inl (cK, 4, .inr (.inr (.inr (.inr (fun i => if i = 0 then some r0 else if i = 1 then some r1 else if i = 2 then some r2 else if i = 3 then some r3 else none)))))), (r0, .inl (cJ, 60, .inr (.inl (fun _ => 0)))), (r1, .inl (cJ, 60, .inr (.inl (fun _ => 0)))), (r3, .inl (cJ, 60, .inr (.inl (fun _ => 0)))), (sw, .inl (cI, 4, .inl (upd (fun _ => 0) (2 : Int32).toNatClampNeg p1))), (ss, .inl (cI, 4, .inl (upd (fun _ => (-1)) (2 : Int32).toNatClampNeg p2))), (r2, .inl (cJ, 60, .inr (.inl (fun _ => 0))))] H := hP
    have hD : va_D A [(h0, .inr (8, [.ref sn, .ref sw, .ref ss])), (sn, .inl (cK, 4, .inr (.inr (.inr (.inr (fun i => if i = 0 then some r0 else if i = 1 then some r1 else if i = 2 then some r2 else if i = 3 then some r3 else none)))))), (r0, .inl (cJ, 60, .inr (.inl (fun _ => 0)))), (r1, .inl (cJ, 60, .inr (.inl (fun _ => 0)))), (r3, .inl (cJ, 60, .inr (.inl (fun _ => 0)))), (sw, .inl (cI, 4, .inl (upd (fun _ => 0) (2 : Int32).toNatClampNeg p1))), (ss, .inl (cI, 4, .inl (upd (fun _ => (-1)) (2 : Int32).toNatClampNeg p2))), (r2, .inl (cJ, 60, .inr (.inl (fun _ => 0))))] := hD
    have hP9 := hP.sub (ws' := [(h0, .inr (8, [.ref sn, .ref sw, .ref ss])), (sn, .inl (cK, 4, .inr (.inr (.inr (.inr (fun i => if i = 0 then some r0 else if i = 1 then some r1 else if i = 2 then some r2 else if i = 3 then some r3 else none)))))), (r0, .inl (cJ, 60, .inr (.inl (fun _ => 0)))), (r1, .inl (cJ, 60, .inr (.inl (fun _ => 0)))), (r2, .inl (cJ, 60, .inr (.inl (fun _ => 0)))), (r3, .inl (cJ, 60, .inr (.inl (fun _ => 0)))), (sw, .inl (cI, 4, .inl ((upd (fun _ => 0) (2 : Int32).toNatClampNeg p1)))), (ss, .inl (cI, 4, .inl ((upd (fun _ => (-1)) (2 : Int32).toNatClampNeg p2))))]) [0, 1, 2, 3, 7, 4, 5, 6] rfl
    have hD9 := hD.sub (ws' := [(h0, .inr (8, [.ref sn, .ref sw, .ref ss])), (sn, .inl (cK, 4, .inr (.inr (.inr (.inr (fun i => if i = 0 then some r0 else if i = 1 then some r1 else if i = 2 then some r2 else if i = 3 then some r3 else none)))))), (r0, .inl (cJ, 60, .inr (.inl (fun _ => 0)))), (r1, .inl (cJ, 60, .inr (.inl (fun _ => 0)))), (r2, .inl (cJ, 60, .inr (.inl (fun _ => 0)))), (r3, .inl (cJ, 60, .inr (.inl (fun _ => 0)))), (sw, .inl (cI, 4, .inl ((upd (fun _ => 0) (2 : Int32).toNatClampNeg p1)))), (ss, .inl (cI, 4, .inl ((upd (fun _ => (-1)) (2 : Int32).toNatClampNeg p2))))]) [0, 1, 2, 3, 7, 4, 5, 6] (by decide) rfl
    exact W.vret hx hb hr (fun t ht hW => ⟨⟨(), rfl, trivial, (upd (fun _ => 0) (2 : Int32).toNatClampNeg p1), (upd (fun _ => (-1)) (2 : Int32).toNatClampNeg p2), by rw [ht]; exact hP9, va_K.moved hW.alike hK, hD9⟩, hS.F ht⟩) hS.2.2 dX8_lay_24
  · subst c4
    refine lv_aload_n hx hb dX8_lay_0 rfl (lv_at hl 0 rfl) ?_
    refine va_get (D := (dC, dI)) (ci := 8) (v := .ref sw) (C := RX8) (T := TX8) (N := 3) hx hb hts i_c_X8_lay_0_X8 hown hK hP 0 rfl rfl 1 (by decide) (hts (.fieldLink RX8 16 "OnePassport$Slots" "width" "[I") (List.mem_of_getElem? (i := 1) rfl)) (fun _ h9 => h9) rfl dX8_lay_1 ?_
    refine lv_iload_n hx hb dX8_lay_4 rfl (lv_at hl 1 rfl) ?_
    refine lv_iload_n hx hb dX8_lay_5 rfl (lv_at hl 2 rfl) ?_
    refine va_iast hx hb hK hP hD hS 6 0 rfl rfl (i := 3) (x := p1) (by unfold vp_in; decide) dX8_lay_6 (fun H locs hP hD hS => ?_)
    have hP : va_P (dC, dI) vwCl [(h0, .inr (8, [.ref sn, .ref sw, .ref ss])), (sn, .inl (cK, 4, .inr (.inr (.inr (.inr (fun i => if i = 0 then some r0 else if i = 1 then some r1 else if i = 2 then some r2 else if i = 3 then some r3 else none)))))), (r0, .inl (cJ, 60, .inr (.inl (fun _ => 0)))), (r1, .inl (cJ, 60, .inr (.inl (fun _ => 0)))), (r2, .inl (cJ, 60, .inr (.inl (fun _ => 0)))), (r3, .inl (cJ, 60, .inr (.inl (fun _ => 0)))), (sw, .inl (cI, 4, .inl (upd (fun _ => 0) (3 : Int32).toNatClampNeg p1))), (ss, .inl (cI, 4, .inl (fun _ => (-1))))] H := hP
    have hD : va_D A [(h0, .inr (8, [.ref sn, .ref sw, .ref ss])), (sn, .inl (cK, 4, .inr (.inr (.inr (.inr (fun i => if i = 0 then some r0 else if i = 1 then some r1 else if i = 2 then some r2 else if i = 3 then some r3 else none)))))), (r0, .inl (cJ, 60, .inr (.inl (fun _ => 0)))), (r1, .inl (cJ, 60, .inr (.inl (fun _ => 0)))), (r2, .inl (cJ, 60, .inr (.inl (fun _ => 0)))), (r3, .inl (cJ, 60, .inr (.inl (fun _ => 0)))), (sw, .inl (cI, 4, .inl (upd (fun _ => 0) (3 : Int32).toNatClampNeg p1))), (ss, .inl (cI, 4, .inl (fun _ => (-1))))] := hD
    refine lv_aload_n hx hb dX8_lay_7 rfl (lv_at hl 0 rfl) ?_
    refine va_get (D := (dC, dI)) (ci := 8) (v := .ref ss) (C := RX8) (T := TX8) (N := 3) hx hb hts i_c_X8_lay_0_X8 hown hK hP 0 rfl rfl 2 (by decide) (hts (.fieldLink RX8 20 "OnePassport$Slots" "size" "[I") (List.mem_of_getElem? (i := 2) rfl)) (fun _ h9 => h9) rfl dX8_lay_8 ?_
    refine lv_iload_n hx hb dX8_lay_11 rfl (lv_at hl 1 rfl) ?_
    refine lv_iload_n hx hb dX8_lay_12 rfl (lv_at hl 3 rfl) ?_
    refine va_iast hx hb hK hP hD hS 7 0 rfl rfl (i := 3) (x := p2) (by unfold vp_in; decide) dX8_lay_13 (fun H locs hP hD hS => ?_)
    have hP : va_P (dC, dI) vwCl [(h0, .inr (8, [.ref sn, .ref sw, .ref ss])), (sn, .inl (cK, 4, .inr (.inr (.inr (.inr (fun i => if i = 0 then some r0 else if i = 1 then some r1 else if i = 2 then some r2 else if i = 3 then some r3 else none)))))), (r0, .inl (cJ, 60, .inr (.inl (fun _ => 0)))), (r1, .inl (cJ, 60, .inr (.inl (fun _ => 0)))), (r2, .inl (cJ, 60, .inr (.inl (fun _ => 0)))), (r3, .inl (cJ, 60, .inr (.inl (fun _ => 0)))), (sw, .inl (cI, 4, .inl (upd (fun _ => 0) (3 : Int32).toNatClampNeg p1))), (ss, .inl (cI, 4, .inl (upd (fun _ => (-1)) (3 : Int32).toNatClampNeg p2)))] H := hP
    have hD : va_D A [(h0, .inr (8, [.ref sn, .ref sw, .ref ss])), (sn, .inl (cK, 4, .inr (.inr (.inr (.inr (fun i => if i = 0 then some r0 else if i = 1 then some r1 else if i = 2 then some r2 else if i = 3 then some r3 else none)))))), (r0, .inl (cJ, 60, .inr (.inl (fun _ => 0)))), (r1, .inl (cJ, 60, .inr (.inl (fun _ => 0)))), (r2, .inl (cJ, 60, .inr (.inl (fun _ => 0)))), (r3, .inl (cJ, 60, .inr (.inl (fun _ => 0)))), (sw, .inl (cI, 4, .inl (upd (fun _ => 0) (3 : Int32).toNatClampNeg p1))), (ss, .inl (cI, 4, .inl (upd (fun _ => (-1)) (3 : Int32).toNatClampNeg p2)))] := hD
    refine lv_aload_n hx hb dX8_lay_14 rfl (lv_at hl 0 rfl) ?_
    refine va_get (D := (dC, dI)) (ci := 8) (v := .ref sn) (C := RX8) (T := TX8) (N := 3) hx hb hts i_c_X8_lay_0_X8 hown hK hP 0 rfl rfl 0 (by decide) (hts (.fieldLink RX8 13 "OnePassport$Slots" "numbers" "[[J") (List.mem_of_getElem? (i := 3) rfl)) (fun _ h9 => h9) rfl dX8_lay_15 ?_
    refine lv_iload_n hx hb dX8_lay_18 rfl (lv_at hl 1 rfl) ?_
    refine wx_aldJ hx hb hK hP 1 2 rfl rfl (i := 3) (by unfold vp_in; decide) dX8_lay_19 ?_
    refine wx_tv (y := .ref r3) rfl ?_
    refine lv_lconst (v := 0) hx hb dX8_lay_20 (by decide) ?_
    have hPc := hP.sub (ws' := [(r3, .inl (cJ, 60, .inr (.inl (fun _ => 0))))]) [5] rfl
    have hDc := hD.sub (ws' := [(r3, .inl (cJ, 60, .inr (.inl (fun _ => 0))))]) [5] (by decide) rfl
    have hKc := hK.sub (tys' := [(cJ, .long)]) [1] rfl
    have hFc := va_free (wc := [(r3, .inl (cJ, 60, .inr (.inl (fun _ => 0))))]) hD hS hA [5] rfl
    refine va_callv (va_runS (As := [.ref r3, .long 0]) (rest := []) ⟨hx, hb, hml, hown, hts⟩ (c_fillJ l dC dI cJ r3 60 (fun _ => 0) 0 (by decide) H.size) (va_cwS 2 hts g_c_X8_lay_0_0 rfl rfl rfl (by decide +kernel) ⟨Nat.le_of_ble_eq_true rfl, Nat.le_of_ble_eq_true rfl⟩) ⟨fun a U g mk q => by obtain ⟨q0, q1, qP, qK, qD⟩ := q; exact ⟨q0, q1, qP, va_K.moved (u := U) (U := U.calling g mk a) (Vm.Alike.refl U.vm) qK, qD⟩, fun U hU hW => ⟨rfl, by rw [hU], by rw [hU]; exact hPc, va_K.moved hW.alike hKc, hDc.weaken (fun _ _ _ _ => trivial)⟩⟩ rfl rfl hl.1 rfl (lv_room (Nat.le_of_ble_eq_true rfl)) dX8_lay_21 ⟨Nat.le_of_ble_eq_true rfl, Nat.le_of_ble_eq_true rfl⟩) hS (fun q _ h => hFc q h) hFc (fun u t H1 locs ht hvm hw hB hz1 hk1 hS => ?_)
    obtain ⟨hP1, hK1, hD1⟩ := hB
    rw [ht] at hP1
    try dsimp only at hw
    obtain ⟨hP, hD⟩ := va_join (wr := [(h0, .inr (8, [.ref sn, .ref sw, .ref ss])), (sn, .inl (cK, 4, .inr (.inr (.inr (.inr (fun i => if i = 0 then some r0 else if i = 1 then some r1 else if i = 2 then some r2 else if i = 3 then some r3 else none)))))), (r0, .inl (cJ, 60, .inr (.inl (fun _ => 0)))), (r1, .inl (cJ, 60, .inr (.inl (fun _ => 0)))), (r2, .inl (cJ, 60, .inr (.inl (fun _ => 0)))), (sw, .inl (cI, 4, .inl (upd (fun _ => 0) (3 : Int32).toNatClampNeg p1))), (ss, .inl (cI, 4, .inl (upd (fun _ => (-1)) (3 : Int32).toNatClampNeg p2)))]) (w1 := [(r3, .inl (cJ, 60, .inr (.inl (fun _ => 0))))]) hP hD [5] [0, 1, 2, 3, 4, 6, 7] rfl rfl (by decide) (by decide) hk1 hFc hP1 hD1
    clear hPc hDc hKc hFc hk1 hP1 hK1 hD1
    generalize H1 = H at hP hS ⊢
    have hP : va_P (dC, dI) vwCl [(h0, .inr (8, [.ref sn, .ref sw, .ref ss])), (sn, .inl (cK, 4, .inr (.inr (.inr (.inr (fun i => if i = 0 then some r0 else if i = 1 then some r1 else if i = 2 then some r2 else if i = 3 then some r3 else none)))))), (r0, .inl (cJ, 60, .inr (.inl (fun _ => 0)))), (r1, .inl (cJ, 60, .inr (.inl (fun _ => 0)))), (r2, .inl (cJ, 60, .inr (.inl (fun _ => 0)))), (sw, .inl (cI, 4, .inl (upd (fun _ => 0) (3 : Int32).toNatClampNeg p1))), (ss, .inl (cI, 4, .inl (upd (fun _ => (-1)) (3 : Int32).toNatClampNeg p2))), (r3, .inl (cJ, 60, .inr (.inl (fun _ => 0))))] H := hP
    have hD : va_D A [(h0, .inr (8, [.ref sn, .ref sw, .ref ss])), (sn, .inl (cK, 4, .inr (.inr (.inr (.inr (fun i => if i = 0 then some r0 else if i = 1 then some r1 else if i = 2 then some r2 else if i = 3 then some r3 else none)))))), (r0, .inl (cJ, 60, .inr (.inl (fun _ => 0)))), (r1, .inl (cJ, 60, .inr (.inl (fun _ => 0)))), (r2, .inl (cJ, 60, .inr (.inl (fun _ => 0)))), (sw, .inl (cI, 4, .inl (upd (fun _ => 0) (3 : Int32).toNatClampNeg p1))), (ss, .inl (cI, 4, .inl (upd (fun _ => (-1)) (3 : Int32).toNatClampNeg p2))), (r3, .inl (cJ, 60, .inr (.inl (fun _ => 0))))] := hD
    have hP9 := hP.sub (ws' := [(h0, .inr (8, [.ref sn, .ref sw, .ref ss])), (sn, .inl (cK, 4, .inr (.inr (.inr (.inr (fun i => if i = 0 then some r0 else if i = 1 then some r1 else if i = 2 then some r2 else if i = 3 then some r3 else none)))))), (r0, .inl (cJ, 60, .inr (.inl (fun _ => 0)))), (r1, .inl (cJ, 60, .inr (.inl (fun _ => 0)))), (r2, .inl (cJ, 60, .inr (.inl (fun _ => 0)))), (r3, .inl (cJ, 60, .inr (.inl (fun _ => 0)))), (sw, .inl (cI, 4, .inl ((upd (fun _ => 0) (3 : Int32).toNatClampNeg p1)))), (ss, .inl (cI, 4, .inl ((upd (fun _ => (-1)) (3 : Int32).toNatClampNeg p2))))]) [0, 1, 2, 3, 4, 7, 5, 6] rfl
    have hD9 := hD.sub (ws' := [(h0, .inr (8, [.ref sn, .ref sw, .ref ss])), (sn, .inl (cK, 4, .inr (.inr (.inr (.inr (fun i => if i = 0 then some r0 else if i = 1 then some r1 else if i = 2 then some r2 else if i = 3 then some r3 else none)))))), (r0, .inl (cJ, 60, .inr (.inl (fun _ => 0)))), (r1, .inl (cJ, 60, .inr (.inl (fun _ => 0)))), (r2, .inl (cJ, 60, .inr (.inl (fun _ => 0)))), (r3, .inl (cJ, 60, .inr (.inl (fun _ => 0)))), (sw, .inl (cI, 4, .inl ((upd (fun _ => 0) (3 : Int32).toNatClampNeg p1)))), (ss, .inl (cI, 4, .inl ((upd (fun _ => (-1)) (3 : Int32).toNatClampNeg p2))))]) [0, 1, 2, 3, 4, 7, 5, 6] (by decide) rfl
    exact W.vret hx hb hr (fun t ht hW => ⟨⟨(), rfl, trivial, (upd (fun _ => 0) (3 : Int32).toNatClampNeg p1), (upd (fun _ => (-1)) (3 : Int32).toNatClampNeg p2), by rw [ht]; exact hP9, va_K.moved hW.alike hK, hD9⟩, hS.F ht⟩) hS.2.2 dX8_lay_24

theorem dX11_row_0 : decode cX11_row 0 = .ok (.aload_n 0, 1) := by decide +kernel
theorem dX11_row_1 : decode cX11_row 1 = .ok (.getfield 55, 3) := by decide +kernel
theorem dX11_row_4 : decode cX11_row 4 = .ok (.iload_n 1, 1) := by decide +kernel
theorem dX11_row_5 : decode cX11_row 5 = .ok (.invokevirtual 308, 3) := by decide +kernel
theorem dX11_row_8 : decode cX11_row 8 = .ok (.ifCond .eq 18, 3) := by decide +kernel
theorem dX11_row_11 : decode cX11_row 11 = .ok (.iload_n 2, 1) := by decide +kernel
theorem dX11_row_12 : decode cX11_row 12 = .ok (.ifCond .lt 14, 3) := by decide +kernel
theorem dX11_row_15 : decode cX11_row 15 = .ok (.iload_n 2, 1) := by decide +kernel
theorem dX11_row_16 : decode cX11_row 16 = .ok (.iconst 3, 1) := by decide +kernel
theorem dX11_row_17 : decode cX11_row 17 = .ok (.if_icmp .gt 9, 3) := by decide +kernel
theorem dX11_row_20 : decode cX11_row 20 = .ok (.iload_n 3, 1) := by decide +kernel
theorem dX11_row_21 : decode cX11_row 21 = .ok (.bipush 60, 2) := by decide +kernel
theorem dX11_row_23 : decode cX11_row 23 = .ok (.if_icmp .le 6, 3) := by decide +kernel
theorem dX11_row_26 : decode cX11_row 26 = .ok (.bipush (-2), 2) := by decide +kernel
theorem dX11_row_28 : decode cX11_row 28 = .ok (.ireturn, 1) := by decide +kernel
theorem dX11_row_29 : decode cX11_row 29 = .ok (.iload_n 3, 1) := by decide +kernel
theorem dX11_row_30 : decode cX11_row 30 = .ok (.ifCond .ge 6, 3) := by decide +kernel
theorem dX11_row_33 : decode cX11_row 33 = .ok (.bipush (-3), 2) := by decide +kernel
theorem dX11_row_35 : decode cX11_row 35 = .ok (.ireturn, 1) := by decide +kernel
theorem dX11_row_36 : decode cX11_row 36 = .ok (.aload_n 0, 1) := by decide +kernel
theorem dX11_row_37 : decode cX11_row 37 = .ok (.getfield 55, 3) := by decide +kernel
theorem dX11_row_40 : decode cX11_row 40 = .ok (.iload_n 1, 1) := by decide +kernel
theorem dX11_row_41 : decode cX11_row 41 = .ok (.iload_n 2, 1) := by decide +kernel
theorem dX11_row_42 : decode cX11_row 42 = .ok (.iload_n 3, 1) := by decide +kernel
theorem dX11_row_43 : decode cX11_row 43 = .ok (.invokevirtual 398, 3) := by decide +kernel
theorem dX11_row_46 : decode cX11_row 46 = .ok (.iconst 0, 1) := by decide +kernel
theorem dX11_row_47 : decode cX11_row 47 = .ok (.ireturn, 1) := by decide +kernel
def w_c_X11_row_0 : List Cond := .code yX11_row cX11_row 4 (some .int) :: ([.fieldLink RX11 55 "OnePassport" "slots" "LOnePassport$Slots;", .methodLink RX11 308 yX8_exists, .instanceMethod yX8_exists, .selects RX8 yX8_exists yX8_exists, .initialized RX8, .code yX8_exists cX8_exists 2 (some .boolean), .methodLink RX11 398 yX8_lay, .instanceMethod yX8_lay, .selects RX8 yX8_lay yX8_lay, .code yX8_lay cX8_lay 4 none, .fieldLink RX8 16 "OnePassport$Slots" "width" "[I", .fieldLink RX8 20 "OnePassport$Slots" "size" "[I", .fieldLink RX8 13 "OnePassport$Slots" "numbers" "[[J", .methodLink RX8 29 yJ7_fill_d0a16, .static yJ7_fill_d0a16, .initialized RJ7, .code yJ7_fill_d0a16 cJ7_fill_d0a16 5 none] ++ wsX110 ++ wsX80)
theorem i_c_X11_row_0_X11 : ∀ w ∈ wsX110, w ∈ w_c_X11_row_0 := fun _ h => List.mem_cons_of_mem _ (List.mem_append_left _ (List.mem_append_right _ h))
theorem i_c_X11_row_0_X8 : ∀ w ∈ wsX80, w ∈ w_c_X11_row_0 := fun _ h => List.mem_cons_of_mem _ (List.mem_append_right _ h)
set_option maxRecDepth 100000 in
theorem g_c_X11_row_0_0 : GoodIn w_c_X11_row_0 (wsV RX11 308 RX8 yX8_exists w_c_X8_exists) := goodIn_of _ (by decide +kernel)
set_option maxRecDepth 100000 in
theorem g_c_X11_row_0_1 : GoodIn w_c_X11_row_0 (wsV RX11 398 RX8 yX8_lay w_c_X8_lay_0) := goodIn_of _ (by decide +kernel)
set_option maxHeartbeats 4000000 in
set_option maxRecDepth 100000 in
theorem c_X11_row_0 (l : Launch) (dC : Nat → ClassId) (dI : Nat → Nat → Nat) (cI : ClassId) (cJ : ClassId) (cK : ClassId) (h0 : Nat) (x0 : Nat) (x1 : Nat) (x2 : Nat) (x3 : Nat) (x4 : Nat) (x5 : Nat) (x6 : Nat) (x7 : Nat) (x8 : Nat) (x9 : Nat) (x10 : Nat) (sn : Nat) (sw : Nat) (ss : Nat) (r0 : Nat) (r1 : Nat) (r2 : Nat) (r3 : Nat) (p0 : Int32) (p1 : Int32) (p2 : Int32) (sz : Nat) : Met l yX11_row w_c_X11_row_0 ({ frames := 2, cells := 0, slots := 0, locals := 47 }) (va_Pc [.ref h0, .int p0, .int p1, .int p2] (fun U => U.heap.size = sz ∧ va_P (dC, dI) vwCl [(h0, .inr (11, [.ref x0, .ref x1, .ref x2, .ref x3, .ref x4, .ref x5, .ref x6, .ref x7, .ref x8, .ref x9, .ref x10])), (x7, .inr (8, [.ref sn, .ref sw, .ref ss])), (sn, .inl (cK, 4, .inr (.inr (.inr (.inr (fun i => if i = 0 then some r0 else if i = 1 then some r1 else if i = 2 then some r2 else if i = 3 then some r3 else none)))))), (r0, .inl (cJ, 60, .inr (.inl (fun _ => 0)))), (r1, .inl (cJ, 60, .inr (.inl (fun _ => 0)))), (r2, .inl (cJ, 60, .inr (.inl (fun _ => 0)))), (r3, .inl (cJ, 60, .inr (.inl (fun _ => 0)))), (sw, .inl (cI, 4, .inl (fun _ => 0))), (ss, .inl (cI, 4, .inl (fun _ => (-1))))] U.heap ∧ va_K (dC, dI) vwCl [(cI, .int), (cJ, .long), (cK, .array .long)] U ∧ va_D (fun _ => True) [(h0, .inr (11, [.ref x0, .ref x1, .ref x2, .ref x3, .ref x4, .ref x5, .ref x6, .ref x7, .ref x8, .ref x9, .ref x10])), (x7, .inr (8, [.ref sn, .ref sw, .ref ss])), (sn, .inl (cK, 4, .inr (.inr (.inr (.inr (fun i => if i = 0 then some r0 else if i = 1 then some r1 else if i = 2 then some r2 else if i = 3 then some r3 else none)))))), (r0, .inl (cJ, 60, .inr (.inl (fun _ => 0)))), (r1, .inl (cJ, 60, .inr (.inl (fun _ => 0)))), (r2, .inl (cJ, 60, .inr (.inl (fun _ => 0)))), (r3, .inl (cJ, 60, .inr (.inl (fun _ => 0)))), (sw, .inl (cI, 4, .inl (fun _ => 0))), (ss, .inl (cI, 4, .inl (fun _ => (-1))))])) (va_Qi (fun (r : Int32) (_ : Unit) => r = (if (0 ≤ p0.toInt ∧ p0.toInt ≤ 3) ∧ (0 ≤ p1.toInt ∧ p1.toInt ≤ 3) ∧ p2.toInt ≤ 60 then (if p2.toInt < 0 then (-3) else 0) else (-2))) (fun (_ : Unit) (t : State) => ∃ (g1 : Nat → Int32), ∃ (g2 : Nat → Int32), va_P (dC, dI) vwCl [(h0, .inr (11, [.ref x0, .ref x1, .ref x2, .ref x3, .ref x4, .ref x5, .ref x6, .ref x7, .ref x8, .ref x9, .ref x10])), (x7, .inr (8, [.ref sn, .ref sw, .ref ss])), (sn, .inl (cK, 4, .inr (.inr (.inr (.inr (fun i => if i = 0 then some r0 else if i = 1 then some r1 else if i = 2 then some r2 else if i = 3 then some r3 else none)))))), (r0, .inl (cJ, 60, .inr (.inl (fun _ => 0)))), (r1, .inl (cJ, 60, .inr (.inl (fun _ => 0)))), (r2, .inl (cJ, 60, .inr (.inl (fun _ => 0)))), (r3, .inl (cJ, 60, .inr (.inl (fun _ => 0)))), (sw, .inl (cI, 4, .inl (g1))), (ss, .inl (cI, 4, .inl (g2)))] t.heap ∧ va_K (dC, dI) vwCl [(cI, .int), (cJ, .long), (cK, .array .long)] t ∧ va_D (va_A [(h0, .inr (11, [.ref x0, .ref x1, .ref x2, .ref x3, .ref x4, .ref x5, .ref x6, .ref x7, .ref x8, .ref x9, .ref x10])), (x7, .inr (8, [.ref sn, .ref sw, .ref ss])), (sn, .inl (cK, 4, .inr (.inr (.inr (.inr (fun i => if i = 0 then some r0 else if i = 1 then some r1 else if i = 2 then some r2 else if i = 3 then some r3 else none)))))), (r0, .inl (cJ, 60, .inr (.inl (fun _ => 0)))), (r1, .inl (cJ, 60, .inr (.inl (fun _ => 0)))), (r2, .inl (cJ, 60, .inr (.inl (fun _ => 0)))), (r3, .inl (cJ, 60, .inr (.inl (fun _ => 0)))), (sw, .inl (cI, 4, .inl (fun _ => 0))), (ss, .inl (cI, 4, .inl (fun _ => (-1))))] sz) [(h0, .inr (11, [.ref x0, .ref x1, .ref x2, .ref x3, .ref x4, .ref x5, .ref x6, .ref x7, .ref x8, .ref x9, .ref x10])), (x7, .inr (8, [.ref sn, .ref sw, .ref ss])), (sn, .inl (cK, 4, .inr (.inr (.inr (.inr (fun i => if i = 0 then some r0 else if i = 1 then some r1 else if i = 2 then some r2 else if i = 3 then some r3 else none)))))), (r0, .inl (cJ, 60, .inr (.inl (fun _ => 0)))), (r1, .inl (cJ, 60, .inr (.inl (fun _ => 0)))), (r2, .inl (cJ, 60, .inr (.inl (fun _ => 0)))), (r3, .inl (cJ, 60, .inr (.inl (fun _ => 0)))), (sw, .inl (cI, 4, .inl (g1))), (ss, .inl (cI, 4, .inl (g2)))]) (va_A [(h0, .inr (11, [.ref x0, .ref x1, .ref x2, .ref x3, .ref x4, .ref x5, .ref x6, .ref x7, .ref x8, .ref x9, .ref x10])), (x7, .inr (8, [.ref sn, .ref sw, .ref ss])), (sn, .inl (cK, 4, .inr (.inr (.inr (.inr (fun i => if i = 0 then some r0 else if i = 1 then some r1 else if i = 2 then some r2 else if i = 3 then some r3 else none)))))), (r0, .inl (cJ, 60, .inr (.inl (fun _ => 0)))), (r1, .inl (cJ, 60, .inr (.inl (fun _ => 0)))), (r2, .inl (cJ, 60, .inr (.inl (fun _ => 0)))), (r3, .inl (cJ, 60, .inr (.inl (fun _ => 0)))), (sw, .inl (cI, 4, .inl (fun _ => 0))), (ss, .inl (cI, 4, .inl (fun _ => (-1))))] sz)) 0 0 (va_A [(h0, .inr (11, [.ref x0, .ref x1, .ref x2, .ref x3, .ref x4, .ref x5, .ref x6, .ref x7, .ref x8, .ref x9, .ref x10])), (x7, .inr (8, [.ref sn, .ref sw, .ref ss])), (sn, .inl (cK, 4, .inr (.inr (.inr (.inr (fun i => if i = 0 then some r0 else if i = 1 then some r1 else if i = 2 then some r2 else if i = 3 then some r3 else none)))))), (r0, .inl (cJ, 60, .inr (.inl (fun _ => 0)))), (r1, .inl (cJ, 60, .inr (.inl (fun _ => 0)))), (r2, .inl (cJ, 60, .inr (.inl (fun _ => 0)))), (r3, .inl (cJ, 60, .inr (.inl (fun _ => 0)))), (sw, .inl (cI, 4, .inl (fun _ => 0))), (ss, .inl (cI, 4, .inl (fun _ => (-1))))] sz) := by
  refine Met.ofW (cc := cX11_row) (maxL := 4) (ret := (some .int)) (by decide) rfl ?_
  intro p e s m args below meth c s₁ B hml hv
  obtain ⟨rfl, hsz, hP, hK, hD0⟩ := hv
  have hx := B.exec
  have hb := B.bytes
  have hr := B.returns
  have hts := atoms_spec (ws := w_c_X11_row_0) B.pre
  have hown : s.vm.findClass RX11 = some m.cls := findClass_of_methodNamed B.named
  have hlocks := B.notSynchronized
  subst hsz
  have hD := hD0.self (sz := s.heap.size)
  generalize hAe : va_A [(h0, .inr (11, [.ref x0, .ref x1, .ref x2, .ref x3, .ref x4, .ref x5, .ref x6, .ref x7, .ref x8, .ref x9, .ref x10])), (x7, .inr (8, [.ref sn, .ref sw, .ref ss])), (sn, .inl (cK, 4, .inr (.inr (.inr (.inr (fun i => if i = 0 then some r0 else if i = 1 then some r1 else if i = 2 then some r2 else if i = 3 then some r3 else none)))))), (r0, .inl (cJ, 60, .inr (.inl (fun _ => 0)))), (r1, .inl (cJ, 60, .inr (.inl (fun _ => 0)))), (r2, .inl (cJ, 60, .inr (.inl (fun _ => 0)))), (r3, .inl (cJ, 60, .inr (.inl (fun _ => 0)))), (sw, .inl (cI, 4, .inl (fun _ => 0))), (ss, .inl (cI, 4, .inl (fun _ => (-1))))] s.heap.size = A at hD ⊢
  have hA : ∀ q : Nat, s.heap.size ≤ q → A q := fun q h => by rw [← hAe]; exact Or.inr h
  have hS : va_S A s.heap s.heap [] := va_S.rf
  have hP : va_P (dC, dI) vwCl [(h0, .inr (11, [.ref x0, .ref x1, .ref x2, .ref x3, .ref x4, .ref x5, .ref x6, .ref x7, .ref x8, .ref x9, .ref x10])), (x7, .inr (8, [.ref sn, .ref sw, .ref ss])), (sn, .inl (cK, 4, .inr (.inr (.inr (.inr (fun i => if i = 0 then some r0 else if i = 1 then some r1 else if i = 2 then some r2 else if i = 3 then some r3 else none)))))), (r0, .inl (cJ, 60, .inr (.inl (fun _ => 0)))), (r1, .inl (cJ, 60, .inr (.inl (fun _ => 0)))), (r2, .inl (cJ, 60, .inr (.inl (fun _ => 0)))), (r3, .inl (cJ, 60, .inr (.inl (fun _ => 0)))), (sw, .inl (cI, 4, .inl (fun _ => 0))), (ss, .inl (cI, 4, .inl (fun _ => (-1))))] s.heap := hP
  have hl := lv_entry ([.ref h0, .int p0, .int p1, .int p2]) (n := 4) (Nat.le_of_ble_eq_true rfl)
  rw [lg_entry_eq]
  generalize (lg_sl ([.ref h0, .int p0, .int p1, .int p2]) ++ List.replicate (4 - (lg_sl ([.ref h0, .int p0, .int p1, .int p2])).length) Slot.unset).toArray = ls at hl ⊢
  have hl : lv_has ls 4 [(0, .ref h0), (1, .int p0), (2, .int p1), (3, .int p2)] := hl
  refine lv_aload_n hx hb dX11_row_0 rfl (lv_at hl 0 rfl) ?_
  refine va_get (D := (dC, dI)) (ci := 11) (v := .ref x7) (C := RX11) (T := TX11) (N := 11) hx hb hts i_c_X11_row_0_X11 hown hK hP 0 rfl rfl 7 (by decide) (hts (.fieldLink RX11 55 "OnePassport" "slots" "LOnePassport$Slots;") (List.mem_of_getElem? (i := 1) rfl)) (fun _ h9 => h9) rfl dX11_row_1 ?_
  refine lv_iload_n hx hb dX11_row_4 rfl (lv_at hl 1 rfl) ?_
  have hPc := hP.sub (ws' := [(x7, .inr (8, [.ref sn, .ref sw, .ref ss]))]) [1] rfl
  have hDc := hD.sub (ws' := [(x7, .inr (8, [.ref sn, .ref sw, .ref ss]))]) [1] (by decide) rfl
  have hKc := hK.sub (tys' := []) [] rfl
  have hFc := va_free (wc := [(x7, .inr (8, [.ref sn, .ref sw, .ref ss]))]) hD hS hA [1] rfl
  refine va_calli (va_runV (As := [.int p0]) (rest := []) ⟨hx, hb, hml, hown, hts⟩ (c_X8_exists l dC dI x7 sn sw ss p0 s.heap.size) (cwV 1 hts g_c_X11_row_0_0 rfl rfl rfl (by decide +kernel) ⟨Nat.le_of_ble_eq_true rfl, Nat.le_of_ble_eq_true rfl⟩) ⟨fun a U g mk q => by obtain ⟨q0, q1, qP, qK, qD⟩ := q; exact ⟨q0, q1, qP, va_K.moved (u := U) (U := U.calling g mk a) (Vm.Alike.refl U.vm) qK, qD⟩, va_recv hKc hPc (ci := 8) (q0 := 0) rfl rfl, fun U hU hW => ⟨rfl, by rw [hU], by rw [hU]; exact hPc, va_K.moved hW.alike hKc, hDc.weaken (fun _ _ _ _ => trivial)⟩⟩ rfl rfl hl.1 rfl (lv_room (Nat.le_of_ble_eq_true rfl)) dX11_row_5 ⟨Nat.le_of_ble_eq_true rfl, Nat.le_of_ble_eq_true rfl⟩) hS (fun q _ h => hFc q h) hFc (fun r_1 u t H1 locs ht hvm hw hB hz1 hk1 hS => ?_)
  obtain ⟨hP1, hK1, hD1⟩ := hB
  rw [ht] at hP1
  try dsimp only at hw
  obtain ⟨hP, hD⟩ := va_join (wr := [(h0, .inr (11, [.ref x0, .ref x1, .ref x2, .ref x3, .ref x4, .ref x5, .ref x6, .ref x7, .ref x8, .ref x9, .ref x10])), (sn, .inl (cK, 4, .inr (.inr (.inr (.inr (fun i => if i = 0 then some r0 else if i = 1 then some r1 else if i = 2 then some r2 else if i = 3 then some r3 else none)))))), (r0, .inl (cJ, 60, .inr (.inl (fun _ => 0)))), (r1, .inl (cJ, 60, .inr (.inl (fun _ => 0)))), (r2, .inl (cJ, 60, .inr (.inl (fun _ => 0)))), (r3, .inl (cJ, 60, .inr (.inl (fun _ => 0)))), (sw, .inl (cI, 4, .inl (fun _ => 0))), (ss, .inl (cI, 4, .inl (fun _ => (-1))))]) (w1 := [(x7, .inr (8, [.ref sn, .ref sw, .ref ss]))]) hP hD [1] [0, 2, 3, 4, 5, 6, 7, 8] rfl rfl (by decide) (by decide) hk1 hFc hP1 hD1
  clear hPc hDc hKc hFc hk1 hP1 hK1 hD1
  generalize H1 = H at hP hS ⊢
  have hP : va_P (dC, dI) vwCl [(h0, .inr (11, [.ref x0, .ref x1, .ref x2, .ref x3, .ref x4, .ref x5, .ref x6, .ref x7, .ref x8, .ref x9, .ref x10])), (sn, .inl (cK, 4, .inr (.inr (.inr (.inr (fun i => if i = 0 then some r0 else if i = 1 then some r1 else if i = 2 then some r2 else if i = 3 then some r3 else none)))))), (r0, .inl (cJ, 60, .inr (.inl (fun _ => 0)))), (r1, .inl (cJ, 60, .inr (.inl (fun _ => 0)))), (r2, .inl (cJ, 60, .inr (.inl (fun _ => 0)))), (r3, .inl (cJ, 60, .inr (.inl (fun _ => 0)))), (sw, .inl (cI, 4, .inl (fun _ => 0))), (ss, .inl (cI, 4, .inl (fun _ => (-1)))), (x7, .inr (8, [.ref sn, .ref sw, .ref ss]))] H := hP
  have hD : va_D A [(h0, .inr (11, [.ref x0, .ref x1, .ref x2, .ref x3, .ref x4, .ref x5, .ref x6, .ref x7, .ref x8, .ref x9, .ref x10])), (sn, .inl (cK, 4, .inr (.inr (.inr (.inr (fun i => if i = 0 then some r0 else if i = 1 then some r1 else if i = 2 then some r2 else if i = 3 then some r3 else none)))))), (r0, .inl (cJ, 60, .inr (.inl (fun _ => 0)))), (r1, .inl (cJ, 60, .inr (.inl (fun _ => 0)))), (r2, .inl (cJ, 60, .inr (.inl (fun _ => 0)))), (r3, .inl (cJ, 60, .inr (.inl (fun _ => 0)))), (sw, .inl (cI, 4, .inl (fun _ => 0))), (ss, .inl (cI, 4, .inl (fun _ => (-1)))), (x7, .inr (8, [.ref sn, .ref sw, .ref ss]))] := hD
  have hw_r_1 := hw
  refine lv_if_eq (tgt := 26) hx hb dX11_row_8 (by decide) (fun c_2 => ?_) (fun c_2 => ?_)
  · have i_2 : ¬ (0 ≤ p0.toInt ∧ p0.toInt ≤ 3) := wx_b0 hw_r_1 c_2
    refine lv_bipush (v := (-2)) hx hb dX11_row_26 (by decide) ?_
    have hP9 := hP.sub (ws' := [(h0, .inr (11, [.ref x0, .ref x1, .ref x2, .ref x3, .ref x4, .ref x5, .ref x6, .ref x7, .ref x8, .ref x9, .ref x10])), (x7, .inr (8, [.ref sn, .ref sw, .ref ss])), (sn, .inl (cK, 4, .inr (.inr (.inr (.inr (fun i => if i = 0 then some r0 else if i = 1 then some r1 else if i = 2 then some r2 else if i = 3 then some r3 else none)))))), (r0, .inl (cJ, 60, .inr (.inl (fun _ => 0)))), (r1, .inl (cJ, 60, .inr (.inl (fun _ => 0)))), (r2, .inl (cJ, 60, .inr (.inl (fun _ => 0)))), (r3, .inl (cJ, 60, .inr (.inl (fun _ => 0)))), (sw, .inl (cI, 4, .inl ((fun _ => 0)))), (ss, .inl (cI, 4, .inl ((fun _ => (-1)))))]) [0, 8, 1, 2, 3, 4, 5, 6, 7] rfl
    have hD9 := hD.sub (ws' := [(h0, .inr (11, [.ref x0, .ref x1, .ref x2, .ref x3, .ref x4, .ref x5, .ref x6, .ref x7, .ref x8, .ref x9, .ref x10])), (x7, .inr (8, [.ref sn, .ref sw, .ref ss])), (sn, .inl (cK, 4, .inr (.inr (.inr (.inr (fun i => if i = 0 then some r0 else if i = 1 then some r1 else if i = 2 then some r2 else if i = 3 then some r3 else none)))))), (r0, .inl (cJ, 60, .inr (.inl (fun _ => 0)))), (r1, .inl (cJ, 60, .inr (.inl (fun _ => 0)))), (r2, .inl (cJ, 60, .inr (.inl (fun _ => 0)))), (r3, .inl (cJ, 60, .inr (.inl (fun _ => 0)))), (sw, .inl (cI, 4, .inl ((fun _ => 0)))), (ss, .inl (cI, 4, .inl ((fun _ => (-1)))))]) [0, 8, 1, 2, 3, 4, 5, 6, 7] (by decide) rfl
    exact W.iret (v := (-2)) hx hb hr (fun t ht hW => ⟨⟨(-2), (), rfl, (by first | rfl | decide | ((repeat' split) <;> first | rfl | (exfalso; omega))), (fun _ => 0), (fun _ => (-1)), by rw [ht]; exact hP9, va_K.moved hW.alike hK, hD9⟩, hS.F ht⟩) hS.2.2 dX11_row_28
  · have i_2 : (0 ≤ p0.toInt ∧ p0.toInt ≤ 3) := wx_b1 hw_r_1 c_2
    refine lv_iload_n hx hb dX11_row_11 rfl (lv_at hl 2 rfl) ?_
    refine lv_if_lt (tgt := 26) hx hb dX11_row_12 (by decide) (fun c_3 => ?_) (fun c_3 => ?_)
    · have i_3 : p1.toInt < 0 := Int32.lt_iff_toInt_lt.mp c_3
      refine lv_bipush (v := (-2)) hx hb dX11_row_26 (by decide) ?_
      have hP9 := hP.sub (ws' := [(h0, .inr (11, [.ref x0, .ref x1, .ref x2, .ref x3, .ref x4, .ref x5, .ref x6, .ref x7, .ref x8, .ref x9, .ref x10])), (x7, .inr (8, [.ref sn, .ref sw, .ref ss])), (sn, .inl (cK, 4, .inr (.inr (.inr (.inr (fun i => if i = 0 then some r0 else if i = 1 then some r1 else if i = 2 then some r2 else if i = 3 then some r3 else none)))))), (r0, .inl (cJ, 60, .inr (.inl (fun _ => 0)))), (r1, .inl (cJ, 60, .inr (.inl (fun _ => 0)))), (r2, .inl (cJ, 60, .inr (.inl (fun _ => 0)))), (r3, .inl (cJ, 60, .inr (.inl (fun _ => 0)))), (sw, .inl (cI, 4, .inl ((fun _ => 0)))), (ss, .inl (cI, 4, .inl ((fun _ => (-1)))))]) [0, 8, 1, 2, 3, 4, 5, 6, 7] rfl
      have hD9 := hD.sub (ws' := [(h0, .inr (11, [.ref x0, .ref x1, .ref x2, .ref x3, .ref x4, .ref x5, .ref x6, .ref x7, .ref x8, .ref x9, .ref x10])), (x7, .inr (8, [.ref sn, .ref sw, .ref ss])), (sn, .inl (cK, 4, .inr (.inr (.inr (.inr (fun i => if i = 0 then some r0 else if i = 1 then some r1 else if i = 2 then some r2 else if i = 3 then some r3 else none)))))), (r0, .inl (cJ, 60, .inr (.inl (fun _ => 0)))), (r1, .inl (cJ, 60, .inr (.inl (fun _ => 0)))), (r2, .inl (cJ, 60, .inr (.inl (fun _ => 0)))), (r3, .inl (cJ, 60, .inr (.inl (fun _ => 0)))), (sw, .inl (cI, 4, .inl ((fun _ => 0)))), (ss, .inl (cI, 4, .inl ((fun _ => (-1)))))]) [0, 8, 1, 2, 3, 4, 5, 6, 7] (by decide) rfl
      exact W.iret (v := (-2)) hx hb hr (fun t ht hW => ⟨⟨(-2), (), rfl, (by first | rfl | decide | ((repeat' split) <;> first | rfl | (exfalso; omega))), (fun _ => 0), (fun _ => (-1)), by rw [ht]; exact hP9, va_K.moved hW.alike hK, hD9⟩, hS.F ht⟩) hS.2.2 dX11_row_28
    · have i_3 : 0 ≤ p1.toInt := Int32.le_iff_toInt_le.mp (Int32.not_lt.mp c_3)
      refine lv_iload_n hx hb dX11_row_15 rfl (lv_at hl 2 rfl) ?_
      refine lv_iconst (v := 3) hx hb dX11_row_16 (by decide) ?_
      refine lv_icmp_gt (tgt := 26) hx hb dX11_row_17 (by decide) (fun c_4 => ?_) (fun c_4 => ?_)
      · have i_4 : 3 < p1.toInt := Int32.lt_iff_toInt_lt.mp c_4
        refine lv_bipush (v := (-2)) hx hb dX11_row_26 (by decide) ?_
        have hP9 := hP.sub (ws' := [(h0, .inr (11, [.ref x0, .ref x1, .ref x2, .ref x3, .ref x4, .ref x5, .ref x6, .ref x7, .ref x8, .ref x9, .ref x10])), (x7, .inr (8, [.ref sn, .ref sw, .ref ss])), (sn, .inl (cK, 4, .inr (.inr (.inr (.inr (fun i => if i = 0 then some r0 else if i = 1 then some r1 else if i = 2 then some r2 else if i = 3 then some r3 else none)))))), (r0, .inl (cJ, 60, .inr (.inl (fun _ => 0)))), (r1, .inl (cJ, 60, .inr (.inl (fun _ => 0)))), (r2, .inl (cJ, 60, .inr (.inl (fun _ => 0)))), (r3, .inl (cJ, 60, .inr (.inl (fun _ => 0)))), (sw, .inl (cI, 4, .inl ((fun _ => 0)))), (ss, .inl (cI, 4, .inl ((fun _ => (-1)))))]) [0, 8, 1, 2, 3, 4, 5, 6, 7] rfl
        have hD9 := hD.sub (ws' := [(h0, .inr (11, [.ref x0, .ref x1, .ref x2, .ref x3, .ref x4, .ref x5, .ref x6, .ref x7, .ref x8, .ref x9, .ref x10])), (x7, .inr (8, [.ref sn, .ref sw, .ref ss])), (sn, .inl (cK, 4, .inr (.inr (.inr (.inr (fun i => if i = 0 then some r0 else if i = 1 then some r1 else if i = 2 then some r2 else if i = 3 then some r3 else none)))))), (r0, .inl (cJ, 60, .inr (.inl (fun _ => 0)))), (r1, .inl (cJ, 60, .inr (.inl (fun _ => 0)))), (r2, .inl (cJ, 60, .inr (.inl (fun _ => 0)))), (r3, .inl (cJ, 60, .inr (.inl (fun _ => 0)))), (sw, .inl (cI, 4, .inl ((fun _ => 0)))), (ss, .inl (cI, 4, .inl ((fun _ => (-1)))))]) [0, 8, 1, 2, 3, 4, 5, 6, 7] (by decide) rfl
        exact W.iret (v := (-2)) hx hb hr (fun t ht hW => ⟨⟨(-2), (), rfl, (by first | rfl | decide | ((repeat' split) <;> first | rfl | (exfalso; omega))), (fun _ => 0), (fun _ => (-1)), by rw [ht]; exact hP9, va_K.moved hW.alike hK, hD9⟩, hS.F ht⟩) hS.2.2 dX11_row_28
      · have i_4 : p1.toInt ≤ 3 := Int32.le_iff_toInt_le.mp (Int32.not_lt.mp c_4)
        refine lv_iload_n hx hb dX11_row_20 rfl (lv_at hl 3 rfl) ?_
        refine lv_bipush (v := 60) hx hb dX11_row_21 (by decide) ?_
        refine lv_icmp_le (tgt := 29) hx hb dX11_row_23 (by decide) (fun c_5 => ?_) (fun c_5 => ?_)
        · have i_5 : p2.toInt ≤ 60 := Int32.le_iff_toInt_le.mp c_5
          refine lv_iload_n hx hb dX11_row_29 rfl (lv_at hl 3 rfl) ?_
          refine lv_if_ge (tgt := 36) hx hb dX11_row_30 (by decide) (fun c_6 => ?_) (fun c_6 => ?_)
          · have i_6 : 0 ≤ p2.toInt := Int32.le_iff_toInt_le.mp c_6
            refine lv_aload_n hx hb dX11_row_36 rfl (lv_at hl 0 rfl) ?_
            refine va_get (D := (dC, dI)) (ci := 11) (v := .ref x7) (C := RX11) (T := TX11) (N := 11) hx hb hts i_c_X11_row_0_X11 hown hK hP 0 rfl rfl 7 (by decide) (hts (.fieldLink RX11 55 "OnePassport" "slots" "LOnePassport$Slots;") (List.mem_of_getElem? (i := 1) rfl)) (fun _ h9 => h9) rfl dX11_row_37 ?_
            refine lv_iload_n hx hb dX11_row_40 rfl (lv_at hl 1 rfl) ?_
            refine lv_iload_n hx hb dX11_row_41 rfl (lv_at hl 2 rfl) ?_
            refine lv_iload_n hx hb dX11_row_42 rfl (lv_at hl 3 rfl) ?_
            have hPc := hP.sub (ws' := [(x7, .inr (8, [.ref sn, .ref sw, .ref ss])), (sn, .inl (cK, 4, .inr (.inr (.inr (.inr (fun i => if i = 0 then some r0 else if i = 1 then some r1 else if i = 2 then some r2 else if i = 3 then some r3 else none)))))), (r0, .inl (cJ, 60, .inr (.inl (fun _ => 0)))), (r1, .inl (cJ, 60, .inr (.inl (fun _ => 0)))), (r2, .inl (cJ, 60, .inr (.inl (fun _ => 0)))), (r3, .inl (cJ, 60, .inr (.inl (fun _ => 0)))), (sw, .inl (cI, 4, .inl (fun _ => 0))), (ss, .inl (cI, 4, .inl (fun _ => (-1))))]) [8, 1, 2, 3, 4, 5, 6, 7] rfl
            have hDc := hD.sub (ws' := [(x7, .inr (8, [.ref sn, .ref sw, .ref ss])), (sn, .inl (cK, 4, .inr (.inr (.inr (.inr (fun i => if i = 0 then some r0 else if i = 1 then some r1 else if i = 2 then some r2 else if i = 3 then some r3 else none)))))), (r0, .inl (cJ, 60, .inr (.inl (fun _ => 0)))), (r1, .inl (cJ, 60, .inr (.inl (fun _ => 0)))), (r2, .inl (cJ, 60, .inr (.inl (fun _ => 0)))), (r3, .inl (cJ, 60, .inr (.inl (fun _ => 0)))), (sw, .inl (cI, 4, .inl (fun _ => 0))), (ss, .inl (cI, 4, .inl (fun _ => (-1))))]) [8, 1, 2, 3, 4, 5, 6, 7] (by decide) rfl
            have hKc := hK.sub (tys' := [(cI, .int), (cJ, .long), (cK, .array .long)]) [0, 1, 2] rfl
            have hFc := va_free (wc := [(x7, .inr (8, [.ref sn, .ref sw, .ref ss])), (sn, .inl (cK, 4, .inr (.inr (.inr (.inr (fun i => if i = 0 then some r0 else if i = 1 then some r1 else if i = 2 then some r2 else if i = 3 then some r3 else none)))))), (r0, .inl (cJ, 60, .inr (.inl (fun _ => 0)))), (r1, .inl (cJ, 60, .inr (.inl (fun _ => 0)))), (r2, .inl (cJ, 60, .inr (.inl (fun _ => 0)))), (r3, .inl (cJ, 60, .inr (.inl (fun _ => 0)))), (sw, .inl (cI, 4, .inl (fun _ => 0))), (ss, .inl (cI, 4, .inl (fun _ => (-1))))]) hD hS hA [8, 1, 2, 3, 4, 5, 6, 7] rfl
            refine va_callv (va_runV (As := [.int p0, .int p1, .int p2]) (rest := []) ⟨hx, hb, hml, hown, hts⟩ (c_X8_lay_0 l dC dI cI cJ cK x7 sn sw ss r0 r1 r2 r3 p0 p1 p2 (by omega) H.size) (cwV 3 hts g_c_X11_row_0_1 rfl rfl rfl (by decide +kernel) ⟨Nat.le_of_ble_eq_true rfl, Nat.le_of_ble_eq_true rfl⟩) ⟨fun a U g mk q => by obtain ⟨q0, q1, qP, qK, qD⟩ := q; exact ⟨q0, q1, qP, va_K.moved (u := U) (U := U.calling g mk a) (Vm.Alike.refl U.vm) qK, qD⟩, va_recv hKc hPc (ci := 8) (q0 := 0) rfl rfl, fun U hU hW => ⟨rfl, by rw [hU], by rw [hU]; exact hPc, va_K.moved hW.alike hKc, hDc.weaken (fun _ _ _ _ => trivial)⟩⟩ rfl rfl hl.1 rfl (lv_room (Nat.le_of_ble_eq_true rfl)) dX11_row_43 ⟨Nat.le_of_ble_eq_true rfl, Nat.le_of_ble_eq_true rfl⟩) hS (fun q _ h => hFc q h) hFc (fun u t H1 locs ht hvm hw hB hz1 hk1 hS => ?_)
            obtain ⟨g_7, g_8, hP1, hK1, hD1⟩ := hB
            rw [ht] at hP1
            try dsimp only at hw
            obtain ⟨hP, hD⟩ := va_join (wr := [(h0, .inr (11, [.ref x0, .ref x1, .ref x2, .ref x3, .ref x4, .ref x5, .ref x6, .ref x7, .ref x8, .ref x9, .ref x10]))]) (w1 := [(x7, .inr (8, [.ref sn, .ref sw, .ref ss])), (sn, .inl (cK, 4, .inr (.inr (.inr (.inr (fun i => if i = 0 then some r0 else if i = 1 then some r1 else if i = 2 then some r2 else if i = 3 then some r3 else none)))))), (r0, .inl (cJ, 60, .inr (.inl (fun _ => 0)))), (r1, .inl (cJ, 60, .inr (.inl (fun _ => 0)))), (r2, .inl (cJ, 60, .inr (.inl (fun _ => 0)))), (r3, .inl (cJ, 60, .inr (.inl (fun _ => 0)))), (sw, .inl (cI, 4, .inl (g_7))), (ss, .inl (cI, 4, .inl (g_8)))]) hP hD [8, 1, 2, 3, 4, 5, 6, 7] [0] rfl rfl (by decide) (by decide) hk1 hFc hP1 hD1
            clear hPc hDc hKc hFc hk1 hP1 hK1 hD1
            generalize H1 = H at hP hS ⊢
            have hP : va_P (dC, dI) vwCl [(h0, .inr (11, [.ref x0, .ref x1, .ref x2, .ref x3, .ref x4, .ref x5, .ref x6, .ref x7, .ref x8, .ref x9, .ref x10])), (x7, .inr (8, [.ref sn, .ref sw, .ref ss])), (sn, .inl (cK, 4, .inr (.inr (.inr (.inr (fun i => if i = 0 then some r0 else if i = 1 then some r1 else if i = 2 then some r2 else if i = 3 then some r3 else none)))))), (r0, .inl (cJ, 60, .inr (.inl (fun _ => 0)))), (r1, .inl (cJ, 60, .inr (.inl (fun _ => 0)))), (r2, .inl (cJ, 60, .inr (.inl (fun _ => 0)))), (r3, .inl (cJ, 60, .inr (.inl (fun _ => 0)))), (sw, .inl (cI, 4, .inl (g_7))), (ss, .inl (cI, 4, .inl (g_8)))] H := hP
            have hD : va_D A [(h0, .inr (11, [.ref x0, .ref x1, .ref x2, .ref x3, .ref x4, .ref x5, .ref x6, .ref x7, .ref x8, .ref x9, .ref x10])), (x7, .inr (8, [.ref sn, .ref sw, .ref ss])), (sn, .inl (cK, 4, .inr (.inr (.inr (.inr (fun i => if i = 0 then some r0 else if i = 1 then some r1 else if i = 2 then some r2 else if i = 3 then some r3 else none)))))), (r0, .inl (cJ, 60, .inr (.inl (fun _ => 0)))), (r1, .inl (cJ, 60, .inr (.inl (fun _ => 0)))), (r2, .inl (cJ, 60, .inr (.inl (fun _ => 0)))), (r3, .inl (cJ, 60, .inr (.inl (fun _ => 0)))), (sw, .inl (cI, 4, .inl (g_7))), (ss, .inl (cI, 4, .inl (g_8)))] := hD
            refine lv_iconst (v := 0) hx hb dX11_row_46 (by decide) ?_
            have hP9 := hP.sub (ws' := [(h0, .inr (11, [.ref x0, .ref x1, .ref x2, .ref x3, .ref x4, .ref x5, .ref x6, .ref x7, .ref x8, .ref x9, .ref x10])), (x7, .inr (8, [.ref sn, .ref sw, .ref ss])), (sn, .inl (cK, 4, .inr (.inr (.inr (.inr (fun i => if i = 0 then some r0 else if i = 1 then some r1 else if i = 2 then some r2 else if i = 3 then some r3 else none)))))), (r0, .inl (cJ, 60, .inr (.inl (fun _ => 0)))), (r1, .inl (cJ, 60, .inr (.inl (fun _ => 0)))), (r2, .inl (cJ, 60, .inr (.inl (fun _ => 0)))), (r3, .inl (cJ, 60, .inr (.inl (fun _ => 0)))), (sw, .inl (cI, 4, .inl (g_7))), (ss, .inl (cI, 4, .inl (g_8)))]) [0, 1, 2, 3, 4, 5, 6, 7, 8] rfl
            have hD9 := hD.sub (ws' := [(h0, .inr (11, [.ref x0, .ref x1, .ref x2, .ref x3, .ref x4, .ref x5, .ref x6, .ref x7, .ref x8, .ref x9, .ref x10])), (x7, .inr (8, [.ref sn, .ref sw, .ref ss])), (sn, .inl (cK, 4, .inr (.inr (.inr (.inr (fun i => if i = 0 then some r0 else if i = 1 then some r1 else if i = 2 then some r2 else if i = 3 then some r3 else none)))))), (r0, .inl (cJ, 60, .inr (.inl (fun _ => 0)))), (r1, .inl (cJ, 60, .inr (.inl (fun _ => 0)))), (r2, .inl (cJ, 60, .inr (.inl (fun _ => 0)))), (r3, .inl (cJ, 60, .inr (.inl (fun _ => 0)))), (sw, .inl (cI, 4, .inl (g_7))), (ss, .inl (cI, 4, .inl (g_8)))]) [0, 1, 2, 3, 4, 5, 6, 7, 8] (by decide) rfl
            exact W.iret (v := 0) hx hb hr (fun t ht hW => ⟨⟨0, (), rfl, (by first | rfl | decide | ((repeat' split) <;> first | rfl | (exfalso; omega))), g_7, g_8, by rw [ht]; exact hP9, va_K.moved hW.alike hK, hD9⟩, hS.F ht⟩) hS.2.2 dX11_row_47
          · have i_6 : p2.toInt < 0 := Int32.lt_iff_toInt_lt.mp (Int32.not_le.mp c_6)
            refine lv_bipush (v := (-3)) hx hb dX11_row_33 (by decide) ?_
            have hP9 := hP.sub (ws' := [(h0, .inr (11, [.ref x0, .ref x1, .ref x2, .ref x3, .ref x4, .ref x5, .ref x6, .ref x7, .ref x8, .ref x9, .ref x10])), (x7, .inr (8, [.ref sn, .ref sw, .ref ss])), (sn, .inl (cK, 4, .inr (.inr (.inr (.inr (fun i => if i = 0 then some r0 else if i = 1 then some r1 else if i = 2 then some r2 else if i = 3 then some r3 else none)))))), (r0, .inl (cJ, 60, .inr (.inl (fun _ => 0)))), (r1, .inl (cJ, 60, .inr (.inl (fun _ => 0)))), (r2, .inl (cJ, 60, .inr (.inl (fun _ => 0)))), (r3, .inl (cJ, 60, .inr (.inl (fun _ => 0)))), (sw, .inl (cI, 4, .inl ((fun _ => 0)))), (ss, .inl (cI, 4, .inl ((fun _ => (-1)))))]) [0, 8, 1, 2, 3, 4, 5, 6, 7] rfl
            have hD9 := hD.sub (ws' := [(h0, .inr (11, [.ref x0, .ref x1, .ref x2, .ref x3, .ref x4, .ref x5, .ref x6, .ref x7, .ref x8, .ref x9, .ref x10])), (x7, .inr (8, [.ref sn, .ref sw, .ref ss])), (sn, .inl (cK, 4, .inr (.inr (.inr (.inr (fun i => if i = 0 then some r0 else if i = 1 then some r1 else if i = 2 then some r2 else if i = 3 then some r3 else none)))))), (r0, .inl (cJ, 60, .inr (.inl (fun _ => 0)))), (r1, .inl (cJ, 60, .inr (.inl (fun _ => 0)))), (r2, .inl (cJ, 60, .inr (.inl (fun _ => 0)))), (r3, .inl (cJ, 60, .inr (.inl (fun _ => 0)))), (sw, .inl (cI, 4, .inl ((fun _ => 0)))), (ss, .inl (cI, 4, .inl ((fun _ => (-1)))))]) [0, 8, 1, 2, 3, 4, 5, 6, 7] (by decide) rfl
            exact W.iret (v := (-3)) hx hb hr (fun t ht hW => ⟨⟨(-3), (), rfl, (by first | rfl | decide | ((repeat' split) <;> first | rfl | (exfalso; omega))), (fun _ => 0), (fun _ => (-1)), by rw [ht]; exact hP9, va_K.moved hW.alike hK, hD9⟩, hS.F ht⟩) hS.2.2 dX11_row_35
        · have i_5 : 60 < p2.toInt := Int32.lt_iff_toInt_lt.mp (Int32.not_le.mp c_5)
          refine lv_bipush (v := (-2)) hx hb dX11_row_26 (by decide) ?_
          have hP9 := hP.sub (ws' := [(h0, .inr (11, [.ref x0, .ref x1, .ref x2, .ref x3, .ref x4, .ref x5, .ref x6, .ref x7, .ref x8, .ref x9, .ref x10])), (x7, .inr (8, [.ref sn, .ref sw, .ref ss])), (sn, .inl (cK, 4, .inr (.inr (.inr (.inr (fun i => if i = 0 then some r0 else if i = 1 then some r1 else if i = 2 then some r2 else if i = 3 then some r3 else none)))))), (r0, .inl (cJ, 60, .inr (.inl (fun _ => 0)))), (r1, .inl (cJ, 60, .inr (.inl (fun _ => 0)))), (r2, .inl (cJ, 60, .inr (.inl (fun _ => 0)))), (r3, .inl (cJ, 60, .inr (.inl (fun _ => 0)))), (sw, .inl (cI, 4, .inl ((fun _ => 0)))), (ss, .inl (cI, 4, .inl ((fun _ => (-1)))))]) [0, 8, 1, 2, 3, 4, 5, 6, 7] rfl
          have hD9 := hD.sub (ws' := [(h0, .inr (11, [.ref x0, .ref x1, .ref x2, .ref x3, .ref x4, .ref x5, .ref x6, .ref x7, .ref x8, .ref x9, .ref x10])), (x7, .inr (8, [.ref sn, .ref sw, .ref ss])), (sn, .inl (cK, 4, .inr (.inr (.inr (.inr (fun i => if i = 0 then some r0 else if i = 1 then some r1 else if i = 2 then some r2 else if i = 3 then some r3 else none)))))), (r0, .inl (cJ, 60, .inr (.inl (fun _ => 0)))), (r1, .inl (cJ, 60, .inr (.inl (fun _ => 0)))), (r2, .inl (cJ, 60, .inr (.inl (fun _ => 0)))), (r3, .inl (cJ, 60, .inr (.inl (fun _ => 0)))), (sw, .inl (cI, 4, .inl ((fun _ => 0)))), (ss, .inl (cI, 4, .inl ((fun _ => (-1)))))]) [0, 8, 1, 2, 3, 4, 5, 6, 7] (by decide) rfl
          exact W.iret (v := (-2)) hx hb hr (fun t ht hW => ⟨⟨(-2), (), rfl, (by first | rfl | decide | ((repeat' split) <;> first | rfl | (exfalso; omega))), (fun _ => 0), (fun _ => (-1)), by rw [ht]; exact hP9, va_K.moved hW.alike hK, hD9⟩, hS.F ht⟩) hS.2.2 dX11_row_28

theorem dX11_write_0 : decode cX11_write 0 = .ok (.aload_n 0, 1) := by decide +kernel
theorem dX11_write_1 : decode cX11_write 1 = .ok (.getfield 55, 3) := by decide +kernel
theorem dX11_write_4 : decode cX11_write 4 = .ok (.iload_n 1, 1) := by decide +kernel
theorem dX11_write_5 : decode cX11_write 5 = .ok (.invokevirtual 308, 3) := by decide +kernel
theorem dX11_write_8 : decode cX11_write 8 = .ok (.ifCond .ne 6, 3) := by decide +kernel
theorem dX11_write_11 : decode cX11_write 11 = .ok (.bipush (-2), 2) := by decide +kernel
theorem dX11_write_13 : decode cX11_write 13 = .ok (.ireturn, 1) := by decide +kernel
theorem dX11_write_14 : decode cX11_write 14 = .ok (.aload_n 0, 1) := by decide +kernel
theorem dX11_write_15 : decode cX11_write 15 = .ok (.getfield 55, 3) := by decide +kernel
theorem dX11_write_18 : decode cX11_write 18 = .ok (.iload_n 1, 1) := by decide +kernel
theorem dX11_write_19 : decode cX11_write 19 = .ok (.invokevirtual 311, 3) := by decide +kernel
theorem dX11_write_22 : decode cX11_write 22 = .ok (.ifCond .ne 6, 3) := by decide +kernel
theorem dX11_write_25 : decode cX11_write 25 = .ok (.bipush (-6), 2) := by decide +kernel
theorem dX11_write_27 : decode cX11_write 27 = .ok (.ireturn, 1) := by decide +kernel
def w_c_X11_write_0 : List Cond := .code yX11_write cX11_write 5 (some .int) :: ([.fieldLink RX11 55 "OnePassport" "slots" "LOnePassport$Slots;", .methodLink RX11 308 yX8_exists, .instanceMethod yX8_exists, .selects RX8 yX8_exists yX8_exists, .initialized RX8, .code yX8_exists cX8_exists 2 (some .boolean), .methodLink RX11 311 yX8_hasRow, .instanceMethod yX8_hasRow, .selects RX8 yX8_hasRow yX8_hasRow, .code yX8_hasRow cX8_hasRow 2 (some .boolean), .fieldLink RX8 20 "OnePassport$Slots" "size" "[I"] ++ wsX110 ++ wsX80)
theorem i_c_X11_write_0_X11 : ∀ w ∈ wsX110, w ∈ w_c_X11_write_0 := fun _ h => List.mem_cons_of_mem _ (List.mem_append_left _ (List.mem_append_right _ h))
theorem i_c_X11_write_0_X8 : ∀ w ∈ wsX80, w ∈ w_c_X11_write_0 := fun _ h => List.mem_cons_of_mem _ (List.mem_append_right _ h)
set_option maxRecDepth 100000 in
theorem g_c_X11_write_0_0 : GoodIn w_c_X11_write_0 (wsV RX11 308 RX8 yX8_exists w_c_X8_exists) := goodIn_of _ (by decide +kernel)
set_option maxRecDepth 100000 in
theorem g_c_X11_write_0_1 : GoodIn w_c_X11_write_0 (wsV RX11 311 RX8 yX8_hasRow w_c_X8_hasRow_0) := goodIn_of _ (by decide +kernel)
set_option maxHeartbeats 4000000 in
set_option maxRecDepth 100000 in
theorem c_X11_write_0 (l : Launch) (dC : Nat → ClassId) (dI : Nat → Nat → Nat) (cI : ClassId) (h0 : Nat) (x0 : Nat) (x1 : Nat) (x2 : Nat) (x3 : Nat) (x4 : Nat) (x5 : Nat) (x6 : Nat) (x7 : Nat) (x8 : Nat) (x9 : Nat) (x10 : Nat) (sn : Nat) (sw : Nat) (ss : Nat) (p0 : Int32) (p1 : Int32) (p2 : Int64) (sz : Nat) : Met l yX11_write w_c_X11_write_0 ({ frames := 1, cells := 0, slots := 0, locals := 21 }) (va_Pc [.ref h0, .int p0, .int p1, .long p2] (fun U => U.heap.size = sz ∧ va_P (dC, dI) vwCl [(h0, .inr (11, [.ref x0, .ref x1, .ref x2, .ref x3, .ref x4, .ref x5, .ref x6, .ref x7, .ref x8, .ref x9, .ref x10])), (x7, .inr (8, [.ref sn, .ref sw, .ref ss])), (ss, .inl (cI, 4, .inl (fun _ => (-1))))] U.heap ∧ va_K (dC, dI) vwCl [(cI, .int)] U ∧ va_D (fun _ => True) [(h0, .inr (11, [.ref x0, .ref x1, .ref x2, .ref x3, .ref x4, .ref x5, .ref x6, .ref x7, .ref x8, .ref x9, .ref x10])), (x7, .inr (8, [.ref sn, .ref sw, .ref ss])), (ss, .inl (cI, 4, .inl (fun _ => (-1))))])) (va_Qi (fun (r : Int32) (_ : Unit) => r = (if 0 ≤ p0.toInt ∧ p0.toInt ≤ 3 then (-6) else (-2))) (fun (_ : Unit) (t : State) => va_P (dC, dI) vwCl [(h0, .inr (11, [.ref x0, .ref x1, .ref x2, .ref x3, .ref x4, .ref x5, .ref x6, .ref x7, .ref x8, .ref x9, .ref x10])), (x7, .inr (8, [.ref sn, .ref sw, .ref ss])), (ss, .inl (cI, 4, .inl (fun _ => (-1))))] t.heap ∧ va_K (dC, dI) vwCl [(cI, .int)] t ∧ va_D (va_A [(h0, .inr (11, [.ref x0, .ref x1, .ref x2, .ref x3, .ref x4, .ref x5, .ref x6, .ref x7, .ref x8, .ref x9, .ref x10])), (x7, .inr (8, [.ref sn, .ref sw, .ref ss])), (ss, .inl (cI, 4, .inl (fun _ => (-1))))] sz) [(h0, .inr (11, [.ref x0, .ref x1, .ref x2, .ref x3, .ref x4, .ref x5, .ref x6, .ref x7, .ref x8, .ref x9, .ref x10])), (x7, .inr (8, [.ref sn, .ref sw, .ref ss])), (ss, .inl (cI, 4, .inl (fun _ => (-1))))]) (va_A [(h0, .inr (11, [.ref x0, .ref x1, .ref x2, .ref x3, .ref x4, .ref x5, .ref x6, .ref x7, .ref x8, .ref x9, .ref x10])), (x7, .inr (8, [.ref sn, .ref sw, .ref ss])), (ss, .inl (cI, 4, .inl (fun _ => (-1))))] sz)) 0 0 (va_A [(h0, .inr (11, [.ref x0, .ref x1, .ref x2, .ref x3, .ref x4, .ref x5, .ref x6, .ref x7, .ref x8, .ref x9, .ref x10])), (x7, .inr (8, [.ref sn, .ref sw, .ref ss])), (ss, .inl (cI, 4, .inl (fun _ => (-1))))] sz) := by
  refine Met.ofW (cc := cX11_write) (maxL := 5) (ret := (some .int)) (by decide) rfl ?_
  intro p e s m args below meth c s₁ B hml hv
  obtain ⟨rfl, hsz, hP, hK, hD0⟩ := hv
  have hx := B.exec
  have hb := B.bytes
  have hr := B.returns
  have hts := atoms_spec (ws := w_c_X11_write_0) B.pre
  have hown : s.vm.findClass RX11 = some m.cls := findClass_of_methodNamed B.named
  have hlocks := B.notSynchronized
  subst hsz
  have hD := hD0.self (sz := s.heap.size)
  generalize hAe : va_A [(h0, .inr (11, [.ref x0, .ref x1, .ref x2, .ref x3, .ref x4, .ref x5, .ref x6, .ref x7, .ref x8, .ref x9, .ref x10])), (x7, .inr (8, [.ref sn, .ref sw, .ref ss])), (ss, .inl (cI, 4, .inl (fun _ => (-1))))] s.heap.size = A at hD ⊢
  have hA : ∀ q : Nat, s.heap.size ≤ q → A q := fun q h => by rw [← hAe]; exact Or.inr h
  have hS : va_S A s.heap s.heap [] := va_S.rf
  have hP : va_P (dC, dI) vwCl [(h0, .inr (11, [.ref x0, .ref x1, .ref x2, .ref x3, .ref x4, .ref x5, .ref x6, .ref x7, .ref x8, .ref x9, .ref x10])), (x7, .inr (8, [.ref sn, .ref sw, .ref ss])), (ss, .inl (cI, 4, .inl (fun _ => (-1))))] s.heap := hP
  have hl := lv_entry ([.ref h0, .int p0, .int p1, .long p2]) (n := 5) (Nat.le_of_ble_eq_true rfl)
  rw [lg_entry_eq]
  generalize (lg_sl ([.ref h0, .int p0, .int p1, .long p2]) ++ List.replicate (5 - (lg_sl ([.ref h0, .int p0, .int p1, .long p2])).length) Slot.unset).toArray = ls at hl ⊢
  have hl : lv_has ls 5 [(0, .ref h0), (1, .int p0), (2, .int p1), (3, .long p2)] := hl
  refine lv_aload_n hx hb dX11_write_0 rfl (lv_at hl 0 rfl) ?_
  refine va_get (D := (dC, dI)) (ci := 11) (v := .ref x7) (C := RX11) (T := TX11) (N := 11) hx hb hts i_c_X11_write_0_X11 hown hK hP 0 rfl rfl 7 (by decide) (hts (.fieldLink RX11 55 "OnePassport" "slots" "LOnePassport$Slots;") (List.mem_of_getElem? (i := 1) rfl)) (fun _ h9 => h9) rfl dX11_write_1 ?_
  refine lv_iload_n hx hb dX11_write_4 rfl (lv_at hl 1 rfl) ?_
  have hPc := hP.sub (ws' := [(x7, .inr (8, [.ref sn, .ref sw, .ref ss]))]) [1] rfl
  have hDc := hD.sub (ws' := [(x7, .inr (8, [.ref sn, .ref sw, .ref ss]))]) [1] (by decide) rfl
  have hKc := hK.sub (tys' := []) [] rfl
  have hFc := va_free (wc := [(x7, .inr (8, [.ref sn, .ref sw, .ref ss]))]) hD hS hA [1] rfl
  refine va_calli (va_runV (As := [.int p0]) (rest := []) ⟨hx, hb, hml, hown, hts⟩ (c_X8_exists l dC dI x7 sn sw ss p0 s.heap.size) (cwV 1 hts g_c_X11_write_0_0 rfl rfl rfl (by decide +kernel) ⟨Nat.le_of_ble_eq_true rfl, Nat.le_of_ble_eq_true rfl⟩) ⟨fun a U g mk q => by obtain ⟨q0, q1, qP, qK, qD⟩ := q; exact ⟨q0, q1, qP, va_K.moved (u := U) (U := U.calling g mk a) (Vm.Alike.refl U.vm) qK, qD⟩, va_recv hKc hPc (ci := 8) (q0 := 0) rfl rfl, fun U hU hW => ⟨rfl, by rw [hU], by rw [hU]; exact hPc, va_K.moved hW.alike hKc, hDc.weaken (fun _ _ _ _ => trivial)⟩⟩ rfl rfl hl.1 rfl (lv_room (Nat.le_of_ble_eq_true rfl)) dX11_write_5 ⟨Nat.le_of_ble_eq_true rfl, Nat.le_of_ble_eq_true rfl⟩) hS (fun q _ h => hFc q h) hFc (fun r_1 u t H1 locs ht hvm hw hB hz1 hk1 hS => ?_)
  obtain ⟨hP1, hK1, hD1⟩ := hB
  rw [ht] at hP1
  try dsimp only at hw
  obtain ⟨hP, hD⟩ := va_join (wr := [(h0, .inr (11, [.ref x0, .ref x1, .ref x2, .ref x3, .ref x4, .ref x5, .ref x6, .ref x7, .ref x8, .ref x9, .ref x10])), (ss, .inl (cI, 4, .inl (fun _ => (-1))))]) (w1 := [(x7, .inr (8, [.ref sn, .ref sw, .ref ss]))]) hP hD [1] [0, 2] rfl rfl (by decide) (by decide) hk1 hFc hP1 hD1
  clear hPc hDc hKc hFc hk1 hP1 hK1 hD1
  generalize H1 = H at hP hS ⊢
  have hP : va_P (dC, dI) vwCl [(h0, .inr (11, [.ref x0, .ref x1, .ref x2, .ref x3, .ref x4, .ref x5, .ref x6, .ref x7, .ref x8, .ref x9, .ref x10])), (ss, .inl (cI, 4, .inl (fun _ => (-1)))), (x7, .inr (8, [.ref sn, .ref sw, .ref ss]))] H := hP
  have hD : va_D A [(h0, .inr (11, [.ref x0, .ref x1, .ref x2, .ref x3, .ref x4, .ref x5, .ref x6, .ref x7, .ref x8, .ref x9, .ref x10])), (ss, .inl (cI, 4, .inl (fun _ => (-1)))), (x7, .inr (8, [.ref sn, .ref sw, .ref ss]))] := hD
  have hw_r_1 := hw
  refine lv_if_ne (tgt := 14) hx hb dX11_write_8 (by decide) (fun c_2 => ?_) (fun c_2 => ?_)
  · have i_2 : (0 ≤ p0.toInt ∧ p0.toInt ≤ 3) := wx_b1 hw_r_1 c_2
    refine lv_aload_n hx hb dX11_write_14 rfl (lv_at hl 0 rfl) ?_
    refine va_get (D := (dC, dI)) (ci := 11) (v := .ref x7) (C := RX11) (T := TX11) (N := 11) hx hb hts i_c_X11_write_0_X11 hown hK hP 0 rfl rfl 7 (by decide) (hts (.fieldLink RX11 55 "OnePassport" "slots" "LOnePassport$Slots;") (List.mem_of_getElem? (i := 1) rfl)) (fun _ h9 => h9) rfl dX11_write_15 ?_
    refine lv_iload_n hx hb dX11_write_18 rfl (lv_at hl 1 rfl) ?_
    have hPc := hP.sub (ws' := [(x7, .inr (8, [.ref sn, .ref sw, .ref ss])), (ss, .inl (cI, 4, .inl (fun _ => (-1))))]) [2, 1] rfl
    have hDc := hD.sub (ws' := [(x7, .inr (8, [.ref sn, .ref sw, .ref ss])), (ss, .inl (cI, 4, .inl (fun _ => (-1))))]) [2, 1] (by decide) rfl
    have hKc := hK.sub (tys' := [(cI, .int)]) [0] rfl
    have hFc := va_free (wc := [(x7, .inr (8, [.ref sn, .ref sw, .ref ss])), (ss, .inl (cI, 4, .inl (fun _ => (-1))))]) hD hS hA [2, 1] rfl
    refine va_calli (va_runV (As := [.int p0]) (rest := []) ⟨hx, hb, hml, hown, hts⟩ (c_X8_hasRow_0 l dC dI cI x7 sn sw ss p0 (vp_in_iff.mpr (by omega)) H.size) (cwV 1 hts g_c_X11_write_0_1 rfl rfl rfl (by decide +kernel) ⟨Nat.le_of_ble_eq_true rfl, Nat.le_of_ble_eq_true rfl⟩) ⟨fun a U g mk q => by obtain ⟨q0, q1, qP, qK, qD⟩ := q; exact ⟨q0, q1, qP, va_K.moved (u := U) (U := U.calling g mk a) (Vm.Alike.refl U.vm) qK, qD⟩, va_recv hKc hPc (ci := 8) (q0 := 0) rfl rfl, fun U hU hW => ⟨rfl, by rw [hU], by rw [hU]; exact hPc, va_K.moved hW.alike hKc, hDc.weaken (fun _ _ _ _ => trivial)⟩⟩ rfl rfl hl.1 rfl (lv_room (Nat.le_of_ble_eq_true rfl)) dX11_write_19 ⟨Nat.le_of_ble_eq_true rfl, Nat.le_of_ble_eq_true rfl⟩) hS (fun q _ h => hFc q h) hFc (fun r_3 u t H1 locs ht hvm hw hB hz1 hk1 hS => ?_)
    obtain ⟨hP1, hK1, hD1⟩ := hB
    rw [ht] at hP1
    try dsimp only at hw
    obtain ⟨hP, hD⟩ := va_join (wr := [(h0, .inr (11, [.ref x0, .ref x1, .ref x2, .ref x3, .ref x4, .ref x5, .ref x6, .ref x7, .ref x8, .ref x9, .ref x10]))]) (w1 := [(x7, .inr (8, [.ref sn, .ref sw, .ref ss])), (ss, .inl (cI, 4, .inl (fun _ => (-1))))]) hP hD [2, 1] [0] rfl rfl (by decide) (by decide) hk1 hFc hP1 hD1
    clear hPc hDc hKc hFc hk1 hP1 hK1 hD1
    generalize H1 = H at hP hS ⊢
    have hP : va_P (dC, dI) vwCl [(h0, .inr (11, [.ref x0, .ref x1, .ref x2, .ref x3, .ref x4, .ref x5, .ref x6, .ref x7, .ref x8, .ref x9, .ref x10])), (x7, .inr (8, [.ref sn, .ref sw, .ref ss])), (ss, .inl (cI, 4, .inl (fun _ => (-1))))] H := hP
    have hD : va_D A [(h0, .inr (11, [.ref x0, .ref x1, .ref x2, .ref x3, .ref x4, .ref x5, .ref x6, .ref x7, .ref x8, .ref x9, .ref x10])), (x7, .inr (8, [.ref sn, .ref sw, .ref ss])), (ss, .inl (cI, 4, .inl (fun _ => (-1))))] := hD
    have er_3 : r_3 = 0 := hw
    refine wx_ti (y := 0) er_3 ?_
    refine lv_if_ne (tgt := 28) hx hb dX11_write_22 (by decide) (fun c_4 => absurd c_4 (by decide)) (fun c_4 => ?_)
    refine lv_bipush (v := (-6)) hx hb dX11_write_25 (by decide) ?_
    have hP9 := hP.sub (ws' := [(h0, .inr (11, [.ref x0, .ref x1, .ref x2, .ref x3, .ref x4, .ref x5, .ref x6, .ref x7, .ref x8, .ref x9, .ref x10])), (x7, .inr (8, [.ref sn, .ref sw, .ref ss])), (ss, .inl (cI, 4, .inl (fun _ => (-1))))]) [0, 1, 2] rfl
    have hD9 := hD.sub (ws' := [(h0, .inr (11, [.ref x0, .ref x1, .ref x2, .ref x3, .ref x4, .ref x5, .ref x6, .ref x7, .ref x8, .ref x9, .ref x10])), (x7, .inr (8, [.ref sn, .ref sw, .ref ss])), (ss, .inl (cI, 4, .inl (fun _ => (-1))))]) [0, 1, 2] (by decide) rfl
    exact W.iret (v := (-6)) hx hb hr (fun t ht hW => ⟨⟨(-6), (), rfl, (by first | rfl | decide | ((repeat' split) <;> first | rfl | (exfalso; omega))), by rw [ht]; exact hP9, va_K.moved hW.alike hK, hD9⟩, hS.F ht⟩) hS.2.2 dX11_write_27
  · have i_2 : ¬ (0 ≤ p0.toInt ∧ p0.toInt ≤ 3) := wx_b0 hw_r_1 c_2
    refine lv_bipush (v := (-2)) hx hb dX11_write_11 (by decide) ?_
    have hP9 := hP.sub (ws' := [(h0, .inr (11, [.ref x0, .ref x1, .ref x2, .ref x3, .ref x4, .ref x5, .ref x6, .ref x7, .ref x8, .ref x9, .ref x10])), (x7, .inr (8, [.ref sn, .ref sw, .ref ss])), (ss, .inl (cI, 4, .inl (fun _ => (-1))))]) [0, 2, 1] rfl
    have hD9 := hD.sub (ws' := [(h0, .inr (11, [.ref x0, .ref x1, .ref x2, .ref x3, .ref x4, .ref x5, .ref x6, .ref x7, .ref x8, .ref x9, .ref x10])), (x7, .inr (8, [.ref sn, .ref sw, .ref ss])), (ss, .inl (cI, 4, .inl (fun _ => (-1))))]) [0, 2, 1] (by decide) rfl
    exact W.iret (v := (-2)) hx hb hr (fun t ht hW => ⟨⟨(-2), (), rfl, (by first | rfl | decide | ((repeat' split) <;> first | rfl | (exfalso; omega))), by rw [ht]; exact hP9, va_K.moved hW.alike hK, hD9⟩, hS.F ht⟩) hS.2.2 dX11_write_13

theorem dX11_paste_0 : decode cX11_paste 0 = .ok (.aload_n 0, 1) := by decide +kernel
theorem dX11_paste_1 : decode cX11_paste 1 = .ok (.getfield 55, 3) := by decide +kernel
theorem dX11_paste_4 : decode cX11_paste 4 = .ok (.iload_n 1, 1) := by decide +kernel
theorem dX11_paste_5 : decode cX11_paste 5 = .ok (.invokevirtual 308, 3) := by decide +kernel
theorem dX11_paste_8 : decode cX11_paste 8 = .ok (.ifCond .eq 14, 3) := by decide +kernel
theorem dX11_paste_11 : decode cX11_paste 11 = .ok (.aload_n 0, 1) := by decide +kernel
theorem dX11_paste_12 : decode cX11_paste 12 = .ok (.getfield 55, 3) := by decide +kernel
theorem dX11_paste_15 : decode cX11_paste 15 = .ok (.iload_n 3, 1) := by decide +kernel
theorem dX11_paste_16 : decode cX11_paste 16 = .ok (.invokevirtual 308, 3) := by decide +kernel
theorem dX11_paste_19 : decode cX11_paste 19 = .ok (.ifCond .ne 6, 3) := by decide +kernel
theorem dX11_paste_22 : decode cX11_paste 22 = .ok (.bipush (-2), 2) := by decide +kernel
theorem dX11_paste_24 : decode cX11_paste 24 = .ok (.ireturn, 1) := by decide +kernel
theorem dX11_paste_25 : decode cX11_paste 25 = .ok (.aload_n 0, 1) := by decide +kernel
theorem dX11_paste_26 : decode cX11_paste 26 = .ok (.getfield 55, 3) := by decide +kernel
theorem dX11_paste_29 : decode cX11_paste 29 = .ok (.iload_n 1, 1) := by decide +kernel
theorem dX11_paste_30 : decode cX11_paste 30 = .ok (.invokevirtual 311, 3) := by decide +kernel
theorem dX11_paste_33 : decode cX11_paste 33 = .ok (.ifCond .eq 14, 3) := by decide +kernel
theorem dX11_paste_47 : decode cX11_paste 47 = .ok (.bipush (-6), 2) := by decide +kernel
theorem dX11_paste_49 : decode cX11_paste 49 = .ok (.ireturn, 1) := by decide +kernel
def w_c_X11_paste_0 : List Cond := .code yX11_paste cX11_paste 6 (some .int) :: ([.fieldLink RX11 55 "OnePassport" "slots" "LOnePassport$Slots;", .methodLink RX11 308 yX8_exists, .instanceMethod yX8_exists, .selects RX8 yX8_exists yX8_exists, .initialized RX8, .code yX8_exists cX8_exists 2 (some .boolean), .methodLink RX11 311 yX8_hasRow, .instanceMethod yX8_hasRow, .selects RX8 yX8_hasRow yX8_hasRow, .code yX8_hasRow cX8_hasRow 2 (some .boolean), .fieldLink RX8 20 "OnePassport$Slots" "size" "[I"] ++ wsX110 ++ wsX80)
theorem i_c_X11_paste_0_X11 : ∀ w ∈ wsX110, w ∈ w_c_X11_paste_0 := fun _ h => List.mem_cons_of_mem _ (List.mem_append_left _ (List.mem_append_right _ h))
theorem i_c_X11_paste_0_X8 : ∀ w ∈ wsX80, w ∈ w_c_X11_paste_0 := fun _ h => List.mem_cons_of_mem _ (List.mem_append_right _ h)
set_option maxRecDepth 100000 in
theorem g_c_X11_paste_0_0 : GoodIn w_c_X11_paste_0 (wsV RX11 308 RX8 yX8_exists w_c_X8_exists) := goodIn_of _ (by decide +kernel)
set_option maxRecDepth 100000 in
theorem g_c_X11_paste_0_1 : GoodIn w_c_X11_paste_0 (wsV RX11 311 RX8 yX8_hasRow w_c_X8_hasRow_0) := goodIn_of _ (by decide +kernel)
set_option maxHeartbeats 4000000 in
set_option maxRecDepth 100000 in
theorem c_X11_paste_0 (l : Launch) (dC : Nat → ClassId) (dI : Nat → Nat → Nat) (cI : ClassId) (h0 : Nat) (x0 : Nat) (x1 : Nat) (x2 : Nat) (x3 : Nat) (x4 : Nat) (x5 : Nat) (x6 : Nat) (x7 : Nat) (x8 : Nat) (x9 : Nat) (x10 : Nat) (sn : Nat) (sw : Nat) (ss : Nat) (p0 : Int32) (p1 : Int32) (p2 : Int32) (p3 : Int32) (p4 : Int32) (sz : Nat) : Met l yX11_paste w_c_X11_paste_0 ({ frames := 1, cells := 0, slots := 0, locals := 21 }) (va_Pc [.ref h0, .int p0, .int p1, .int p2, .int p3, .int p4] (fun U => U.heap.size = sz ∧ va_P (dC, dI) vwCl [(h0, .inr (11, [.ref x0, .ref x1, .ref x2, .ref x3, .ref x4, .ref x5, .ref x6, .ref x7, .ref x8, .ref x9, .ref x10])), (x7, .inr (8, [.ref sn, .ref sw, .ref ss])), (ss, .inl (cI, 4, .inl (fun _ => (-1))))] U.heap ∧ va_K (dC, dI) vwCl [(cI, .int)] U ∧ va_D (fun _ => True) [(h0, .inr (11, [.ref x0, .ref x1, .ref x2, .ref x3, .ref x4, .ref x5, .ref x6, .ref x7, .ref x8, .ref x9, .ref x10])), (x7, .inr (8, [.ref sn, .ref sw, .ref ss])), (ss, .inl (cI, 4, .inl (fun _ => (-1))))])) (va_Qi (fun (r : Int32) (_ : Unit) => r = (if (0 ≤ p0.toInt ∧ p0.toInt ≤ 3) ∧ (0 ≤ p2.toInt ∧ p2.toInt ≤ 3) then (-6) else (-2))) (fun (_ : Unit) (t : State) => va_P (dC, dI) vwCl [(h0, .inr (11, [.ref x0, .ref x1, .ref x2, .ref x3, .ref x4, .ref x5, .ref x6, .ref x7, .ref x8, .ref x9, .ref x10])), (x7, .inr (8, [.ref sn, .ref sw, .ref ss])), (ss, .inl (cI, 4, .inl (fun _ => (-1))))] t.heap ∧ va_K (dC, dI) vwCl [(cI, .int)] t ∧ va_D (va_A [(h0, .inr (11, [.ref x0, .ref x1, .ref x2, .ref x3, .ref x4, .ref x5, .ref x6, .ref x7, .ref x8, .ref x9, .ref x10])), (x7, .inr (8, [.ref sn, .ref sw, .ref ss])), (ss, .inl (cI, 4, .inl (fun _ => (-1))))] sz) [(h0, .inr (11, [.ref x0, .ref x1, .ref x2, .ref x3, .ref x4, .ref x5, .ref x6, .ref x7, .ref x8, .ref x9, .ref x10])), (x7, .inr (8, [.ref sn, .ref sw, .ref ss])), (ss, .inl (cI, 4, .inl (fun _ => (-1))))]) (va_A [(h0, .inr (11, [.ref x0, .ref x1, .ref x2, .ref x3, .ref x4, .ref x5, .ref x6, .ref x7, .ref x8, .ref x9, .ref x10])), (x7, .inr (8, [.ref sn, .ref sw, .ref ss])), (ss, .inl (cI, 4, .inl (fun _ => (-1))))] sz)) 0 0 (va_A [(h0, .inr (11, [.ref x0, .ref x1, .ref x2, .ref x3, .ref x4, .ref x5, .ref x6, .ref x7, .ref x8, .ref x9, .ref x10])), (x7, .inr (8, [.ref sn, .ref sw, .ref ss])), (ss, .inl (cI, 4, .inl (fun _ => (-1))))] sz) := by
  refine Met.ofW (cc := cX11_paste) (maxL := 6) (ret := (some .int)) (by decide) rfl ?_
  intro p e s m args below meth c s₁ B hml hv
  obtain ⟨rfl, hsz, hP, hK, hD0⟩ := hv
  have hx := B.exec
  have hb := B.bytes
  have hr := B.returns
  have hts := atoms_spec (ws := w_c_X11_paste_0) B.pre
  have hown : s.vm.findClass RX11 = some m.cls := findClass_of_methodNamed B.named
  have hlocks := B.notSynchronized
  subst hsz
  have hD := hD0.self (sz := s.heap.size)
  generalize hAe : va_A [(h0, .inr (11, [.ref x0, .ref x1, .ref x2, .ref x3, .ref x4, .ref x5, .ref x6, .ref x7, .ref x8, .ref x9, .ref x10])), (x7, .inr (8, [.ref sn, .ref sw, .ref ss])), (ss, .inl (cI, 4, .inl (fun _ => (-1))))] s.heap.size = A at hD ⊢
  have hA : ∀ q : Nat, s.heap.size ≤ q → A q := fun q h => by rw [← hAe]; exact Or.inr h
  have hS : va_S A s.heap s.heap [] := va_S.rf
  have hP : va_P (dC, dI) vwCl [(h0, .inr (11, [.ref x0, .ref x1, .ref x2, .ref x3, .ref x4, .ref x5, .ref x6, .ref x7, .ref x8, .ref x9, .ref x10])), (x7, .inr (8, [.ref sn, .ref sw, .ref ss])), (ss, .inl (cI, 4, .inl (fun _ => (-1))))] s.heap := hP
  have hl := lv_entry ([.ref h0, .int p0, .int p1, .int p2, .int p3, .int p4]) (n := 6) (Nat.le_of_ble_eq_true rfl)
  rw [lg_entry_eq]
  generalize (lg_sl ([.ref h0, .int p0, .int p1, .int p2, .int p3, .int p4]) ++ List.replicate (6 - (lg_sl ([.ref h0, .int p0, .int p1, .int p2, .int p3, .int p4])).length) Slot.unset).toArray = ls at hl ⊢
  have hl : lv_has ls 6 [(0, .ref h0), (1, .int p0), (2, .int p1), (3, .int p2), (4, .int p3), (5, .int p4)] := hl
  refine lv_aload_n hx hb dX11_paste_0 rfl (lv_at hl 0 rfl) ?_
  refine va_get (D := (dC, dI)) (ci := 11) (v := .ref x7) (C := RX11) (T := TX11) (N := 11) hx hb hts i_c_X11_paste_0_X11 hown hK hP 0 rfl rfl 7 (by decide) (hts (.fieldLink RX11 55 "OnePassport" "slots" "LOnePassport$Slots;") (List.mem_of_getElem? (i := 1) rfl)) (fun _ h9 => h9) rfl dX11_paste_1 ?_
  refine lv_iload_n hx hb dX11_paste_4 rfl (lv_at hl 1 rfl) ?_
  have hPc := hP.sub (ws' := [(x7, .inr (8, [.ref sn, .ref sw, .ref ss]))]) [1] rfl
  have hDc := hD.sub (ws' := [(x7, .inr (8, [.ref sn, .ref sw, .ref ss]))]) [1] (by decide) rfl
  have hKc := hK.sub (tys' := []) [] rfl
  have hFc := va_free (wc := [(x7, .inr (8, [.ref sn, .ref sw, .ref ss]))]) hD hS hA [1] rfl
  refine va_calli (va_runV (As := [.int p0]) (rest := []) ⟨hx, hb, hml, hown, hts⟩ (c_X8_exists l dC dI x7 sn sw ss p0 s.heap.size) (cwV 1 hts g_c_X11_paste_0_0 rfl rfl rfl (by decide +kernel) ⟨Nat.le_of_ble_eq_true rfl, Nat.le_of_ble_eq_true rfl⟩) ⟨fun a U g mk q => by obtain ⟨q0, q1, qP, qK, qD⟩ := q; exact ⟨q0, q1, qP, va_K.moved (u := U) (U := U.calling g mk a) (Vm.Alike.refl U.vm) qK, qD⟩, va_recv hKc hPc (ci := 8) (q0 := 0) rfl rfl, fun U hU hW => ⟨rfl, by rw [hU], by rw [hU]; exact hPc, va_K.moved hW.alike hKc, hDc.weaken (fun _ _ _ _ => trivial)⟩⟩ rfl rfl hl.1 rfl (lv_room (Nat.le_of_ble_eq_true rfl)) dX11_paste_5 ⟨Nat.le_of_ble_eq_true rfl, Nat.le_of_ble_eq_true rfl⟩) hS (fun q _ h => hFc q h) hFc (fun r_1 u t H1 locs ht hvm hw hB hz1 hk1 hS => ?_)
  obtain ⟨hP1, hK1, hD1⟩ := hB
  rw [ht] at hP1
  try dsimp only at hw
  obtain ⟨hP, hD⟩ := va_join (wr := [(h0, .inr (11, [.ref x0, .ref x1, .ref x2, .ref x3, .ref x4, .ref x5, .ref x6, .ref x7, .ref x8, .ref x9, .ref x10])), (ss, .inl (cI, 4, .inl (fun _ => (-1))))]) (w1 := [(x7, .inr (8, [.ref sn, .ref sw, .ref ss]))]) hP hD [1] [0, 2] rfl rfl (by decide) (by decide) hk1 hFc hP1 hD1
  clear hPc hDc hKc hFc hk1 hP1 hK1 hD1
  generalize H1 = H at hP hS ⊢
  have hP : va_P (dC, dI) vwCl [(h0, .inr (11, [.ref x0, .ref x1, .ref x2, .ref x3, .ref x4, .ref x5, .ref x6, .ref x7, .ref x8, .ref x9, .ref x10])), (ss, .inl (cI, 4, .inl (fun _ => (-1)))), (x7, .inr (8, [.ref sn, .ref sw, .ref ss]))] H := hP
  have hD : va_D A [(h0, .inr (11, [.ref x0, .ref x1, .ref x2, .ref x3, .ref x4, .ref x5, .ref x6, .ref x7, .ref x8, .ref x9, .ref x10])), (ss, .inl (cI, 4, .inl (fun _ => (-1)))), (x7, .inr (8, [.ref sn, .ref sw, .ref ss]))] := hD
  have hw_r_1 := hw
  refine lv_if_eq (tgt := 22) hx hb dX11_paste_8 (by decide) (fun c_2 => ?_) (fun c_2 => ?_)
  · have i_2 : ¬ (0 ≤ p0.toInt ∧ p0.toInt ≤ 3) := wx_b0 hw_r_1 c_2
    refine lv_bipush (v := (-2)) hx hb dX11_paste_22 (by decide) ?_
    have hP9 := hP.sub (ws' := [(h0, .inr (11, [.ref x0, .ref x1, .ref x2, .ref x3, .ref x4, .ref x5, .ref x6, .ref x7, .ref x8, .ref x9, .ref x10])), (x7, .inr (8, [.ref sn, .ref sw, .ref ss])), (ss, .inl (cI, 4, .inl (fun _ => (-1))))]) [0, 2, 1] rfl
    have hD9 := hD.sub (ws' := [(h0, .inr (11, [.ref x0, .ref x1, .ref x2, .ref x3, .ref x4, .ref x5, .ref x6, .ref x7, .ref x8, .ref x9, .ref x10])), (x7, .inr (8, [.ref sn, .ref sw, .ref ss])), (ss, .inl (cI, 4, .inl (fun _ => (-1))))]) [0, 2, 1] (by decide) rfl
    exact W.iret (v := (-2)) hx hb hr (fun t ht hW => ⟨⟨(-2), (), rfl, (by first | rfl | decide | ((repeat' split) <;> first | rfl | (exfalso; omega))), by rw [ht]; exact hP9, va_K.moved hW.alike hK, hD9⟩, hS.F ht⟩) hS.2.2 dX11_paste_24
  · have i_2 : (0 ≤ p0.toInt ∧ p0.toInt ≤ 3) := wx_b1 hw_r_1 c_2
    refine lv_aload_n hx hb dX11_paste_11 rfl (lv_at hl 0 rfl) ?_
    refine va_get (D := (dC, dI)) (ci := 11) (v := .ref x7) (C := RX11) (T := TX11) (N := 11) hx hb hts i_c_X11_paste_0_X11 hown hK hP 0 rfl rfl 7 (by decide) (hts (.fieldLink RX11 55 "OnePassport" "slots" "LOnePassport$Slots;") (List.mem_of_getElem? (i := 1) rfl)) (fun _ h9 => h9) rfl dX11_paste_12 ?_
    refine lv_iload_n hx hb dX11_paste_15 rfl (lv_at hl 3 rfl) ?_
    have hPc := hP.sub (ws' := [(x7, .inr (8, [.ref sn, .ref sw, .ref ss]))]) [2] rfl
    have hDc := hD.sub (ws' := [(x7, .inr (8, [.ref sn, .ref sw, .ref ss]))]) [2] (by decide) rfl
    have hKc := hK.sub (tys' := []) [] rfl
    have hFc := va_free (wc := [(x7, .inr (8, [.ref sn, .ref sw, .ref ss]))]) hD hS hA [2] rfl
    refine va_calli (va_runV (As := [.int p2]) (rest := []) ⟨hx, hb, hml, hown, hts⟩ (c_X8_exists l dC dI x7 sn sw ss p2 H.size) (cwV 1 hts g_c_X11_paste_0_0 rfl rfl rfl (by decide +kernel) ⟨Nat.le_of_ble_eq_true rfl, Nat.le_of_ble_eq_true rfl⟩) ⟨fun a U g mk q => by obtain ⟨q0, q1, qP, qK, qD⟩ := q; exact ⟨q0, q1, qP, va_K.moved (u := U) (U := U.calling g mk a) (Vm.Alike.refl U.vm) qK, qD⟩, va_recv hKc hPc (ci := 8) (q0 := 0) rfl rfl, fun U hU hW => ⟨rfl, by rw [hU], by rw [hU]; exact hPc, va_K.moved hW.alike hKc, hDc.weaken (fun _ _ _ _ => trivial)⟩⟩ rfl rfl hl.1 rfl (lv_room (Nat.le_of_ble_eq_true rfl)) dX11_paste_16 ⟨Nat.le_of_ble_eq_true rfl, Nat.le_of_ble_eq_true rfl⟩) hS (fun q _ h => hFc q h) hFc (fun r_3 u t H1 locs ht hvm hw hB hz1 hk1 hS => ?_)
    obtain ⟨hP1, hK1, hD1⟩ := hB
    rw [ht] at hP1
    try dsimp only at hw
    obtain ⟨hP, hD⟩ := va_join (wr := [(h0, .inr (11, [.ref x0, .ref x1, .ref x2, .ref x3, .ref x4, .ref x5, .ref x6, .ref x7, .ref x8, .ref x9, .ref x10])), (ss, .inl (cI, 4, .inl (fun _ => (-1))))]) (w1 := [(x7, .inr (8, [.ref sn, .ref sw, .ref ss]))]) hP hD [2] [0, 1] rfl rfl (by decide) (by decide) hk1 hFc hP1 hD1
    clear hPc hDc hKc hFc hk1 hP1 hK1 hD1
    generalize H1 = H at hP hS ⊢
    have hP : va_P (dC, dI) vwCl [(h0, .inr (11, [.ref x0, .ref x1, .ref x2, .ref x3, .ref x4, .ref x5, .ref x6, .ref x7, .ref x8, .ref x9, .ref x10])), (ss, .inl (cI, 4, .inl (fun _ => (-1)))), (x7, .inr (8, [.ref sn, .ref sw, .ref ss]))] H := hP
    have hD : va_D A [(h0, .inr (11, [.ref x0, .ref x1, .ref x2, .ref x3, .ref x4, .ref x5, .ref x6, .ref x7, .ref x8, .ref x9, .ref x10])), (ss, .inl (cI, 4, .inl (fun _ => (-1)))), (x7, .inr (8, [.ref sn, .ref sw, .ref ss]))] := hD
    have hw_r_3 := hw
    refine lv_if_ne (tgt := 25) hx hb dX11_paste_19 (by decide) (fun c_4 => ?_) (fun c_4 => ?_)
    · have i_4 : (0 ≤ p2.toInt ∧ p2.toInt ≤ 3) := wx_b1 hw_r_3 c_4
      refine lv_aload_n hx hb dX11_paste_25 rfl (lv_at hl 0 rfl) ?_
      refine va_get (D := (dC, dI)) (ci := 11) (v := .ref x7) (C := RX11) (T := TX11) (N := 11) hx hb hts i_c_X11_paste_0_X11 hown hK hP 0 rfl rfl 7 (by decide) (hts (.fieldLink RX11 55 "OnePassport" "slots" "LOnePassport$Slots;") (List.mem_of_getElem? (i := 1) rfl)) (fun _ h9 => h9) rfl dX11_paste_26 ?_
      refine lv_iload_n hx hb dX11_paste_29 rfl (lv_at hl 1 rfl) ?_
      have hPc := hP.sub (ws' := [(x7, .inr (8, [.ref sn, .ref sw, .ref ss])), (ss, .inl (cI, 4, .inl (fun _ => (-1))))]) [2, 1] rfl
      have hDc := hD.sub (ws' := [(x7, .inr (8, [.ref sn, .ref sw, .ref ss])), (ss, .inl (cI, 4, .inl (fun _ => (-1))))]) [2, 1] (by decide) rfl
      have hKc := hK.sub (tys' := [(cI, .int)]) [0] rfl
      have hFc := va_free (wc := [(x7, .inr (8, [.ref sn, .ref sw, .ref ss])), (ss, .inl (cI, 4, .inl (fun _ => (-1))))]) hD hS hA [2, 1] rfl
      refine va_calli (va_runV (As := [.int p0]) (rest := []) ⟨hx, hb, hml, hown, hts⟩ (c_X8_hasRow_0 l dC dI cI x7 sn sw ss p0 (vp_in_iff.mpr (by omega)) H.size) (cwV 1 hts g_c_X11_paste_0_1 rfl rfl rfl (by decide +kernel) ⟨Nat.le_of_ble_eq_true rfl, Nat.le_of_ble_eq_true rfl⟩) ⟨fun a U g mk q => by obtain ⟨q0, q1, qP, qK, qD⟩ := q; exact ⟨q0, q1, qP, va_K.moved (u := U) (U := U.calling g mk a) (Vm.Alike.refl U.vm) qK, qD⟩, va_recv hKc hPc (ci := 8) (q0 := 0) rfl rfl, fun U hU hW => ⟨rfl, by rw [hU], by rw [hU]; exact hPc, va_K.moved hW.alike hKc, hDc.weaken (fun _ _ _ _ => trivial)⟩⟩ rfl rfl hl.1 rfl (lv_room (Nat.le_of_ble_eq_true rfl)) dX11_paste_30 ⟨Nat.le_of_ble_eq_true rfl, Nat.le_of_ble_eq_true rfl⟩) hS (fun q _ h => hFc q h) hFc (fun r_5 u t H1 locs ht hvm hw hB hz1 hk1 hS => ?_)
      obtain ⟨hP1, hK1, hD1⟩ := hB
      rw [ht] at hP1
      try dsimp only at hw
      obtain ⟨hP, hD⟩ := va_join (wr := [(h0, .inr (11, [.ref x0, .ref x1, .ref x2, .ref x3, .ref x4, .ref x5, .ref x6, .ref x7, .ref x8, .ref x9, .ref x10]))]) (w1 := [(x7, .inr (8, [.ref sn, .ref sw, .ref ss])), (ss, .inl (cI, 4, .inl (fun _ => (-1))))]) hP hD [2, 1] [0] rfl rfl (by decide) (by decide) hk1 hFc hP1 hD1
      clear hPc hDc hKc hFc hk1 hP1 hK1 hD1
      generalize H1 = H at hP hS ⊢
      have hP : va_P (dC, dI) vwCl [(h0, .inr (11, [.ref x0, .ref x1, .ref x2, .ref x3, .ref x4, .ref x5, .ref x6, .ref x7, .ref x8, .ref x9, .ref x10])), (x7, .inr (8, [.ref sn, .ref sw, .ref ss])), (ss, .inl (cI, 4, .inl (fun _ => (-1))))] H := hP
      have hD : va_D A [(h0, .inr (11, [.ref x0, .ref x1, .ref x2, .ref x3, .ref x4, .ref x5, .ref x6, .ref x7, .ref x8, .ref x9, .ref x10])), (x7, .inr (8, [.ref sn, .ref sw, .ref ss])), (ss, .inl (cI, 4, .inl (fun _ => (-1))))] := hD
      have er_5 : r_5 = 0 := hw
      refine wx_ti (y := 0) er_5 ?_
      refine lv_if_eq (tgt := 47) hx hb dX11_paste_33 (by decide) (fun c_6 => ?_) (fun c_6 => absurd rfl c_6)
      refine lv_bipush (v := (-6)) hx hb dX11_paste_47 (by decide) ?_
      have hP9 := hP.sub (ws' := [(h0, .inr (11, [.ref x0, .ref x1, .ref x2, .ref x3, .ref x4, .ref x5, .ref x6, .ref x7, .ref x8, .ref x9, .ref x10])), (x7, .inr (8, [.ref sn, .ref sw, .ref ss])), (ss, .inl (cI, 4, .inl (fun _ => (-1))))]) [0, 1, 2] rfl
      have hD9 := hD.sub (ws' := [(h0, .inr (11, [.ref x0, .ref x1, .ref x2, .ref x3, .ref x4, .ref x5, .ref x6, .ref x7, .ref x8, .ref x9, .ref x10])), (x7, .inr (8, [.ref sn, .ref sw, .ref ss])), (ss, .inl (cI, 4, .inl (fun _ => (-1))))]) [0, 1, 2] (by decide) rfl
      exact W.iret (v := (-6)) hx hb hr (fun t ht hW => ⟨⟨(-6), (), rfl, (by first | rfl | decide | ((repeat' split) <;> first | rfl | (exfalso; omega))), by rw [ht]; exact hP9, va_K.moved hW.alike hK, hD9⟩, hS.F ht⟩) hS.2.2 dX11_paste_49
    · have i_4 : ¬ (0 ≤ p2.toInt ∧ p2.toInt ≤ 3) := wx_b0 hw_r_3 c_4
      refine lv_bipush (v := (-2)) hx hb dX11_paste_22 (by decide) ?_
      have hP9 := hP.sub (ws' := [(h0, .inr (11, [.ref x0, .ref x1, .ref x2, .ref x3, .ref x4, .ref x5, .ref x6, .ref x7, .ref x8, .ref x9, .ref x10])), (x7, .inr (8, [.ref sn, .ref sw, .ref ss])), (ss, .inl (cI, 4, .inl (fun _ => (-1))))]) [0, 2, 1] rfl
      have hD9 := hD.sub (ws' := [(h0, .inr (11, [.ref x0, .ref x1, .ref x2, .ref x3, .ref x4, .ref x5, .ref x6, .ref x7, .ref x8, .ref x9, .ref x10])), (x7, .inr (8, [.ref sn, .ref sw, .ref ss])), (ss, .inl (cI, 4, .inl (fun _ => (-1))))]) [0, 2, 1] (by decide) rfl
      exact W.iret (v := (-2)) hx hb hr (fun t ht hW => ⟨⟨(-2), (), rfl, (by first | rfl | decide | ((repeat' split) <;> first | rfl | (exfalso; omega))), by rw [ht]; exact hP9, va_K.moved hW.alike hK, hD9⟩, hS.F ht⟩) hS.2.2 dX11_paste_24

theorem dX11_back_0 : decode cX11_back 0 = .ok (.iload_n 1, 1) := by decide +kernel
theorem dX11_back_1 : decode cX11_back 1 = .ok (.ifCond .lt 8, 3) := by decide +kernel
theorem dX11_back_4 : decode cX11_back 4 = .ok (.iload_n 1, 1) := by decide +kernel
theorem dX11_back_5 : decode cX11_back 5 = .ok (.iconst 3, 1) := by decide +kernel
theorem dX11_back_6 : decode cX11_back 6 = .ok (.if_icmp .lt 6, 3) := by decide +kernel
theorem dX11_back_9 : decode cX11_back 9 = .ok (.bipush (-2), 2) := by decide +kernel
theorem dX11_back_11 : decode cX11_back 11 = .ok (.ireturn, 1) := by decide +kernel
theorem dX11_back_12 : decode cX11_back 12 = .ok (.aload_n 0, 1) := by decide +kernel
theorem dX11_back_13 : decode cX11_back 13 = .ok (.getfield 67, 3) := by decide +kernel
theorem dX11_back_16 : decode cX11_back 16 = .ok (.iload_n 1, 1) := by decide +kernel
theorem dX11_back_17 : decode cX11_back 17 = .ok (.baload, 1) := by decide +kernel
theorem dX11_back_18 : decode cX11_back 18 = .ok (.ifCond .ne 6, 3) := by decide +kernel
theorem dX11_back_21 : decode cX11_back 21 = .ok (.bipush (-6), 2) := by decide +kernel
theorem dX11_back_23 : decode cX11_back 23 = .ok (.ireturn, 1) := by decide +kernel
def w_c_X11_back_0 : List Cond := .code yX11_back cX11_back 2 (some .int) :: ([.fieldLink RX11 67 "OnePassport" "imageKept" "[Z"] ++ wsX110)
theorem i_c_X11_back_0_X11 : ∀ w ∈ wsX110, w ∈ w_c_X11_back_0 := fun _ h => List.mem_cons_of_mem _ (List.mem_append_right _ h)
set_option maxHeartbeats 4000000 in
set_option maxRecDepth 100000 in
theorem c_X11_back_0 (l : Launch) (dC : Nat → ClassId) (dI : Nat → Nat → Nat) (cZ : ClassId) (h0 : Nat) (x0 : Nat) (x1 : Nat) (x2 : Nat) (x3 : Nat) (x4 : Nat) (x5 : Nat) (x6 : Nat) (x7 : Nat) (x8 : Nat) (x9 : Nat) (x10 : Nat) (p0 : Int32) (sz : Nat) : Met l yX11_back w_c_X11_back_0 ({ frames := 0, cells := 0, slots := 0, locals := 0 }) (va_Pc [.ref h0, .int p0] (fun U => U.heap.size = sz ∧ va_P (dC, dI) vwCl [(h0, .inr (11, [.ref x0, .ref x1, .ref x2, .ref x3, .ref x4, .ref x5, .ref x6, .ref x7, .ref x8, .ref x9, .ref x10])), (x10, .inl (cZ, 3, .inl (fun _ => 0)))] U.heap ∧ va_K (dC, dI) vwCl [(cZ, .boolean)] U ∧ va_D (fun _ => True) [(h0, .inr (11, [.ref x0, .ref x1, .ref x2, .ref x3, .ref x4, .ref x5, .ref x6, .ref x7, .ref x8, .ref x9, .ref x10])), (x10, .inl (cZ, 3, .inl (fun _ => 0)))])) (va_Qi (fun (r : Int32) (_ : Unit) => r = (if 0 ≤ p0.toInt ∧ p0.toInt ≤ 2 then (-6) else (-2))) (fun (_ : Unit) (t : State) => va_P (dC, dI) vwCl [(h0, .inr (11, [.ref x0, .ref x1, .ref x2, .ref x3, .ref x4, .ref x5, .ref x6, .ref x7, .ref x8, .ref x9, .ref x10])), (x10, .inl (cZ, 3, .inl (fun _ => 0)))] t.heap ∧ va_K (dC, dI) vwCl [(cZ, .boolean)] t ∧ va_D (va_A [(h0, .inr (11, [.ref x0, .ref x1, .ref x2, .ref x3, .ref x4, .ref x5, .ref x6, .ref x7, .ref x8, .ref x9, .ref x10])), (x10, .inl (cZ, 3, .inl (fun _ => 0)))] sz) [(h0, .inr (11, [.ref x0, .ref x1, .ref x2, .ref x3, .ref x4, .ref x5, .ref x6, .ref x7, .ref x8, .ref x9, .ref x10])), (x10, .inl (cZ, 3, .inl (fun _ => 0)))]) (va_A [(h0, .inr (11, [.ref x0, .ref x1, .ref x2, .ref x3, .ref x4, .ref x5, .ref x6, .ref x7, .ref x8, .ref x9, .ref x10])), (x10, .inl (cZ, 3, .inl (fun _ => 0)))] sz)) 0 0 (va_A [(h0, .inr (11, [.ref x0, .ref x1, .ref x2, .ref x3, .ref x4, .ref x5, .ref x6, .ref x7, .ref x8, .ref x9, .ref x10])), (x10, .inl (cZ, 3, .inl (fun _ => 0)))] sz) := by
  refine Met.ofW (cc := cX11_back) (maxL := 2) (ret := (some .int)) (by decide) rfl ?_
  intro p e s m args below meth c s₁ B hml hv
  obtain ⟨rfl, hsz, hP, hK, hD0⟩ := hv
  have hx := B.exec
  have hb := B.bytes
  have hr := B.returns
  have hts := atoms_spec (ws := w_c_X11_back_0) B.pre
  have hown : s.vm.findClass RX11 = some m.cls := findClass_of_methodNamed B.named
  have hlocks := B.notSynchronized
  subst hsz
  have hD := hD0.self (sz := s.heap.size)
  generalize hAe : va_A [(h0, .inr (11, [.ref x0, .ref x1, .ref x2, .ref x3, .ref x4, .ref x5, .ref x6, .ref x7, .ref x8, .ref x9, .ref x10])), (x10, .inl (cZ, 3, .inl (fun _ => 0)))] s.heap.size = A at hD ⊢
  have hA : ∀ q : Nat, s.heap.size ≤ q → A q := fun q h => by rw [← hAe]; exact Or.inr h
  have hS : va_S A s.heap s.heap [] := va_S.rf
  have hP : va_P (dC, dI) vwCl [(h0, .inr (11, [.ref x0, .ref x1, .ref x2, .ref x3, .ref x4, .ref x5, .ref x6, .ref x7, .ref x8, .ref x9, .ref x10])), (x10, .inl (cZ, 3, .inl (fun _ => 0)))] s.heap := hP
  have hl := lv_entry ([.ref h0, .int p0]) (n := 2) (Nat.le_of_ble_eq_true rfl)
  rw [lg_entry_eq]
  generalize (lg_sl ([.ref h0, .int p0]) ++ List.replicate (2 - (lg_sl ([.ref h0, .int p0])).length) Slot.unset).toArray = ls at hl ⊢
  have hl : lv_has ls 2 [(0, .ref h0), (1, .int p0)] := hl
  refine lv_iload_n hx hb dX11_back_0 rfl (lv_at hl 1 rfl) ?_
  refine lv_if_lt (tgt := 9) hx hb dX11_back_1 (by decide) (fun c_1 => ?_) (fun c_1 => ?_)
  · have i_1 : p0.toInt < 0 := Int32.lt_iff_toInt_lt.mp c_1
    refine lv_bipush (v := (-2)) hx hb dX11_back_9 (by decide) ?_
    have hP9 := hP.sub (ws' := [(h0, .inr (11, [.ref x0, .ref x1, .ref x2, .ref x3, .ref x4, .ref x5, .ref x6, .ref x7, .ref x8, .ref x9, .ref x10])), (x10, .inl (cZ, 3, .inl (fun _ => 0)))]) [0, 1] rfl
    have hD9 := hD.sub (ws' := [(h0, .inr (11, [.ref x0, .ref x1, .ref x2, .ref x3, .ref x4, .ref x5, .ref x6, .ref x7, .ref x8, .ref x9, .ref x10])), (x10, .inl (cZ, 3, .inl (fun _ => 0)))]) [0, 1] (by decide) rfl
    exact W.iret (v := (-2)) hx hb hr (fun t ht hW => ⟨⟨(-2), (), rfl, (by first | rfl | decide | ((repeat' split) <;> first | rfl | (exfalso; omega))), by rw [ht]; exact hP9, va_K.moved hW.alike hK, hD9⟩, hS.F ht⟩) hS.2.2 dX11_back_11
  · have i_1 : 0 ≤ p0.toInt := Int32.le_iff_toInt_le.mp (Int32.not_lt.mp c_1)
    refine lv_iload_n hx hb dX11_back_4 rfl (lv_at hl 1 rfl) ?_
    refine lv_iconst (v := 3) hx hb dX11_back_5 (by decide) ?_
    refine lv_icmp_lt (tgt := 12) hx hb dX11_back_6 (by decide) (fun c_2 => ?_) (fun c_2 => ?_)
    · have i_2 : p0.toInt < 3 := Int32.lt_iff_toInt_lt.mp c_2
      refine lv_aload_n hx hb dX11_back_12 rfl (lv_at hl 0 rfl) ?_
      refine va_get (D := (dC, dI)) (ci := 11) (v := .ref x10) (C := RX11) (T := TX11) (N := 11) hx hb hts i_c_X11_back_0_X11 hown hK hP 0 rfl rfl 10 (by decide) (hts (.fieldLink RX11 67 "OnePassport" "imageKept" "[Z") (List.mem_of_getElem? (i := 1) rfl)) (fun _ h9 => h9) rfl dX11_back_13 ?_
      refine lv_iload_n hx hb dX11_back_16 rfl (lv_at hl 1 rfl) ?_
      refine va_zald hx hb hK hP 1 0 rfl rfl (i := p0) (vp_in_iff.mpr (by omega)) dX11_back_17 ?_
      refine wx_ti (y := 0) rfl ?_
      refine lv_if_ne (tgt := 24) hx hb dX11_back_18 (by decide) (fun c_3 => absurd c_3 (by decide)) (fun c_3 => ?_)
      refine lv_bipush (v := (-6)) hx hb dX11_back_21 (by decide) ?_
      have hP9 := hP.sub (ws' := [(h0, .inr (11, [.ref x0, .ref x1, .ref x2, .ref x3, .ref x4, .ref x5, .ref x6, .ref x7, .ref x8, .ref x9, .ref x10])), (x10, .inl (cZ, 3, .inl (fun _ => 0)))]) [0, 1] rfl
      have hD9 := hD.sub (ws' := [(h0, .inr (11, [.ref x0, .ref x1, .ref x2, .ref x3, .ref x4, .ref x5, .ref x6, .ref x7, .ref x8, .ref x9, .ref x10])), (x10, .inl (cZ, 3, .inl (fun _ => 0)))]) [0, 1] (by decide) rfl
      exact W.iret (v := (-6)) hx hb hr (fun t ht hW => ⟨⟨(-6), (), rfl, (by first | rfl | decide | ((repeat' split) <;> first | rfl | (exfalso; omega))), by rw [ht]; exact hP9, va_K.moved hW.alike hK, hD9⟩, hS.F ht⟩) hS.2.2 dX11_back_23
    · have i_2 : 3 ≤ p0.toInt := Int32.le_iff_toInt_le.mp (Int32.not_lt.mp c_2)
      refine lv_bipush (v := (-2)) hx hb dX11_back_9 (by decide) ?_
      have hP9 := hP.sub (ws' := [(h0, .inr (11, [.ref x0, .ref x1, .ref x2, .ref x3, .ref x4, .ref x5, .ref x6, .ref x7, .ref x8, .ref x9, .ref x10])), (x10, .inl (cZ, 3, .inl (fun _ => 0)))]) [0, 1] rfl
      have hD9 := hD.sub (ws' := [(h0, .inr (11, [.ref x0, .ref x1, .ref x2, .ref x3, .ref x4, .ref x5, .ref x6, .ref x7, .ref x8, .ref x9, .ref x10])), (x10, .inl (cZ, 3, .inl (fun _ => 0)))]) [0, 1] (by decide) rfl
      exact W.iret (v := (-2)) hx hb hr (fun t ht hW => ⟨⟨(-2), (), rfl, (by first | rfl | decide | ((repeat' split) <;> first | rfl | (exfalso; omega))), by rw [ht]; exact hP9, va_K.moved hW.alike hK, hD9⟩, hS.F ht⟩) hS.2.2 dX11_back_11
