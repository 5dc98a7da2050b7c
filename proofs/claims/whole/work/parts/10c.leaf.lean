theorem dX0_isTold_0 : decode cX0_isTold 0 = .ok (.aload_n 0, 1) := by decide +kernel
theorem dX0_isTold_1 : decode cX0_isTold 1 = .ok (.getfield 33, 3) := by decide +kernel
theorem dX0_isTold_4 : decode cX0_isTold 4 = .ok (.ifCond .le 7, 3) := by decide +kernel
theorem dX0_isTold_7 : decode cX0_isTold 7 = .ok (.iconst 1, 1) := by decide +kernel
theorem dX0_isTold_8 : decode cX0_isTold 8 = .ok (.goto 4, 3) := by decide +kernel
theorem dX0_isTold_11 : decode cX0_isTold 11 = .ok (.iconst 0, 1) := by decide +kernel
theorem dX0_isTold_12 : decode cX0_isTold 12 = .ok (.ireturn, 1) := by decide +kernel
def w_c_X0_isTold : List Cond := .code yX0_isTold cX0_isTold 1 (some .boolean) :: ([.fieldLink RX0 33 "OnePassport$Family" "lines" "I"] ++ wsX00)
theorem i_c_X0_isTold_X0 : ∀ w ∈ wsX00, w ∈ w_c_X0_isTold := fun _ h => List.mem_cons_of_mem _ (List.mem_append_right _ h)
set_option maxHeartbeats 4000000 in
set_option maxRecDepth 100000 in
theorem c_X0_isTold (l : Launch) (dC : Nat → ClassId) (dI : Nat → Nat → Nat) (h0 : Nat) (f5 : Nat) (f6 : Nat) (f7 : Nat) (f8 : Nat) (f9 : Nat) (f10 : Nat) (f11 : Nat) (v0 : Int32) (v1 : Int32) (v2 : Int32) (v3 : Int32) (v4 : Int32) (sz : Nat) : Met l yX0_isTold w_c_X0_isTold ({ frames := 0, cells := 0, slots := 0, locals := 0 }) (va_Pc [.ref h0] (fun U => U.heap.size = sz ∧ va_P (dC, dI) vwCl [(h0, .inr (0, [.int v0, .int v1, .int v2, .int v3, .int v4, .ref f5, .ref f6, .ref f7, .ref f8, .ref f9, .ref f10, .ref f11]))] U.heap ∧ va_K (dC, dI) vwCl [] U ∧ va_D (fun _ => True) [(h0, .inr (0, [.int v0, .int v1, .int v2, .int v3, .int v4, .ref f5, .ref f6, .ref f7, .ref f8, .ref f9, .ref f10, .ref f11]))])) (va_Qi (fun (r : Int32) (_ : Unit) => r = (if v0.toInt ≤ 0 then 0 else 1)) (fun (_ : Unit) (t : State) => va_P (dC, dI) vwCl [(h0, .inr (0, [.int v0, .int v1, .int v2, .int v3, .int v4, .ref f5, .ref f6, .ref f7, .ref f8, .ref f9, .ref f10, .ref f11]))] t.heap ∧ va_K (dC, dI) vwCl [] t ∧ va_D (va_A [(h0, .inr (0, [.int v0, .int v1, .int v2, .int v3, .int v4, .ref f5, .ref f6, .ref f7, .ref f8, .ref f9, .ref f10, .ref f11]))] sz) [(h0, .inr (0, [.int v0, .int v1, .int v2, .int v3, .int v4, .ref f5, .ref f6, .ref f7, .ref f8, .ref f9, .ref f10, .ref f11]))]) (va_A [(h0, .inr (0, [.int v0, .int v1, .int v2, .int v3, .int v4, .ref f5, .ref f6, .ref f7, .ref f8, .ref f9, .ref f10, .ref f11]))] sz)) 0 0 (va_A [(h0, .inr (0, [.int v0, .int v1, .int v2, .int v3, .int v4, .ref f5, .ref f6, .ref f7, .ref f8, .ref f9, .ref f10, .ref f11]))] sz) := by
  refine Met.ofW (cc := cX0_isTold) (maxL := 1) (ret := (some .boolean)) (by decide) rfl ?_
  intro p e s m args below meth c s₁ B hml hv
  obtain ⟨rfl, hsz, hP, hK, hD0⟩ := hv
  have hx := B.exec
  have hb := B.bytes
  have hr := B.returns
  have hts := atoms_spec (ws := w_c_X0_isTold) B.pre
  have hown : s.vm.findClass RX0 = some m.cls := findClass_of_methodNamed B.named
  have hlocks := B.notSynchronized
  subst hsz
  have hD := hD0.self (sz := s.heap.size)
  generalize hAe : va_A [(h0, .inr (0, [.int v0, .int v1, .int v2, .int v3, .int v4, .ref f5, .ref f6, .ref f7, .ref f8, .ref f9, .ref f10, .ref f11]))] s.heap.size = A at hD ⊢
  have hA : ∀ q : Nat, s.heap.size ≤ q → A q := fun q h => by rw [← hAe]; exact Or.inr h
  have hS : va_S A s.heap s.heap [] := va_S.rf
  have hP : va_P (dC, dI) vwCl [(h0, .inr (0, [.int v0, .int v1, .int v2, .int v3, .int v4, .ref f5, .ref f6, .ref f7, .ref f8, .ref f9, .ref f10, .ref f11]))] s.heap := hP
  have hl := lv_entry ([.ref h0]) (n := 1) (Nat.le_of_ble_eq_true rfl)
  rw [lg_entry_eq]
  generalize (lg_sl ([.ref h0]) ++ List.replicate (1 - (lg_sl ([.ref h0])).length) Slot.unset).toArray = ls at hl ⊢
  have hl : lv_has ls 1 [(0, .ref h0)] := hl
  refine lv_aload_n hx hb dX0_isTold_0 rfl (lv_at hl 0 rfl) ?_
  refine va_get (D := (dC, dI)) (ci := 0) (v := .int v0) (C := RX0) (T := TX0) (N := 12) hx hb hts i_c_X0_isTold_X0 hown hK hP 0 rfl rfl 0 (by decide) (hts (.fieldLink RX0 33 "OnePassport$Family" "lines" "I") (List.mem_of_getElem? (i := 1) rfl)) (fun _ h9 => h9) rfl dX0_isTold_1 ?_
  refine lv_if_le (tgt := 11) hx hb dX0_isTold_4 (by decide) (fun c_1 => ?_) (fun c_1 => ?_)
  · have i_1 : v0.toInt ≤ 0 := Int32.le_iff_toInt_le.mp c_1
    refine lv_iconst (v := 0) hx hb dX0_isTold_11 (by decide) ?_
    have hP9 := hP.sub (ws' := [(h0, .inr (0, [.int v0, .int v1, .int v2, .int v3, .int v4, .ref f5, .ref f6, .ref f7, .ref f8, .ref f9, .ref f10, .ref f11]))]) [0] rfl
    have hD9 := hD.sub (ws' := [(h0, .inr (0, [.int v0, .int v1, .int v2, .int v3, .int v4, .ref f5, .ref f6, .ref f7, .ref f8, .ref f9, .ref f10, .ref f11]))]) [0] (by decide) rfl
    exact W.zret (v := 0) hx hb hr rfl (fun t ht hW => ⟨⟨0, (), rfl, (by first | rfl | decide | ((repeat' split) <;> first | rfl | (exfalso; omega))), by rw [ht]; exact hP9, va_K.moved hW.alike hK, hD9⟩, hS.F ht⟩) hS.2.2 dX0_isTold_12
  · have i_1 : 0 < v0.toInt := Int32.lt_iff_toInt_lt.mp (Int32.not_le.mp c_1)
    refine lv_iconst (v := 1) hx hb dX0_isTold_7 (by decide) ?_
    refine lv_goto (tgt := 12) hx hb dX0_isTold_8 (by decide) ?_
    have hP9 := hP.sub (ws' := [(h0, .inr (0, [.int v0, .int v1, .int v2, .int v3, .int v4, .ref f5, .ref f6, .ref f7, .ref f8, .ref f9, .ref f10, .ref f11]))]) [0] rfl
    have hD9 := hD.sub (ws' := [(h0, .inr (0, [.int v0, .int v1, .int v2, .int v3, .int v4, .ref f5, .ref f6, .ref f7, .ref f8, .ref f9, .ref f10, .ref f11]))]) [0] (by decide) rfl
    exact W.zret (v := 1) hx hb hr rfl (fun t ht hW => ⟨⟨1, (), rfl, (by first | rfl | decide | ((repeat' split) <;> first | rfl | (exfalso; omega))), by rw [ht]; exact hP9, va_K.moved hW.alike hK, hD9⟩, hS.F ht⟩) hS.2.2 dX0_isTold_12

theorem dX0_hasPerson_0 : decode cX0_hasPerson 0 = .ok (.iload_n 1, 1) := by decide +kernel
theorem dX0_hasPerson_1 : decode cX0_hasPerson 1 = .ok (.ifCond .lt 15, 3) := by decide +kernel
theorem dX0_hasPerson_4 : decode cX0_hasPerson 4 = .ok (.iload_n 1, 1) := by decide +kernel
theorem dX0_hasPerson_5 : decode cX0_hasPerson 5 = .ok (.aload_n 0, 1) := by decide +kernel
theorem dX0_hasPerson_6 : decode cX0_hasPerson 6 = .ok (.getfield 43, 3) := by decide +kernel
theorem dX0_hasPerson_9 : decode cX0_hasPerson 9 = .ok (.if_icmp .ge 7, 3) := by decide +kernel
theorem dX0_hasPerson_12 : decode cX0_hasPerson 12 = .ok (.iconst 1, 1) := by decide +kernel
theorem dX0_hasPerson_13 : decode cX0_hasPerson 13 = .ok (.goto 4, 3) := by decide +kernel
theorem dX0_hasPerson_16 : decode cX0_hasPerson 16 = .ok (.iconst 0, 1) := by decide +kernel
theorem dX0_hasPerson_17 : decode cX0_hasPerson 17 = .ok (.ireturn, 1) := by decide +kernel
def w_c_X0_hasPerson : List Cond := .code yX0_hasPerson cX0_hasPerson 2 (some .boolean) :: ([.fieldLink RX0 43 "OnePassport$Family" "persons" "I"] ++ wsX00)
theorem i_c_X0_hasPerson_X0 : ∀ w ∈ wsX00, w ∈ w_c_X0_hasPerson := fun _ h => List.mem_cons_of_mem _ (List.mem_append_right _ h)
set_option maxHeartbeats 4000000 in
set_option maxRecDepth 100000 in
theorem c_X0_hasPerson (l : Launch) (dC : Nat → ClassId) (dI : Nat → Nat → Nat) (h0 : Nat) (f5 : Nat) (f6 : Nat) (f7 : Nat) (f8 : Nat) (f9 : Nat) (f10 : Nat) (f11 : Nat) (v0 : Int32) (v1 : Int32) (v2 : Int32) (v3 : Int32) (v4 : Int32) (p0 : Int32) (sz : Nat) : Met l yX0_hasPerson w_c_X0_hasPerson ({ frames := 0, cells := 0, slots := 0, locals := 0 }) (va_Pc [.ref h0, .int p0] (fun U => U.heap.size = sz ∧ va_P (dC, dI) vwCl [(h0, .inr (0, [.int v0, .int v1, .int v2, .int v3, .int v4, .ref f5, .ref f6, .ref f7, .ref f8, .ref f9, .ref f10, .ref f11]))] U.heap ∧ va_K (dC, dI) vwCl [] U ∧ va_D (fun _ => True) [(h0, .inr (0, [.int v0, .int v1, .int v2, .int v3, .int v4, .ref f5, .ref f6, .ref f7, .ref f8, .ref f9, .ref f10, .ref f11]))])) (va_Qi (fun (r : Int32) (_ : Unit) => r = (if 0 ≤ p0.toInt ∧ p0.toInt < v3.toInt then 1 else 0)) (fun (_ : Unit) (t : State) => va_P (dC, dI) vwCl [(h0, .inr (0, [.int v0, .int v1, .int v2, .int v3, .int v4, .ref f5, .ref f6, .ref f7, .ref f8, .ref f9, .ref f10, .ref f11]))] t.heap ∧ va_K (dC, dI) vwCl [] t ∧ va_D (va_A [(h0, .inr (0, [.int v0, .int v1, .int v2, .int v3, .int v4, .ref f5, .ref f6, .ref f7, .ref f8, .ref f9, .ref f10, .ref f11]))] sz) [(h0, .inr (0, [.int v0, .int v1, .int v2, .int v3, .int v4, .ref f5, .ref f6, .ref f7, .ref f8, .ref f9, .ref f10, .ref f11]))]) (va_A [(h0, .inr (0, [.int v0, .int v1, .int v2, .int v3, .int v4, .ref f5, .ref f6, .ref f7, .ref f8, .ref f9, .ref f10, .ref f11]))] sz)) 0 0 (va_A [(h0, .inr (0, [.int v0, .int v1, .int v2, .int v3, .int v4, .ref f5, .ref f6, .ref f7, .ref f8, .ref f9, .ref f10, .ref f11]))] sz) := by
  refine Met.ofW (cc := cX0_hasPerson) (maxL := 2) (ret := (some .boolean)) (by decide) rfl ?_
  intro p e s m args below meth c s₁ B hml hv
  obtain ⟨rfl, hsz, hP, hK, hD0⟩ := hv
  have hx := B.exec
  have hb := B.bytes
  have hr := B.returns
  have hts := atoms_spec (ws := w_c_X0_hasPerson) B.pre
  have hown : s.vm.findClass RX0 = some m.cls := findClass_of_methodNamed B.named
  have hlocks := B.notSynchronized
  subst hsz
  have hD := hD0.self (sz := s.heap.size)
  generalize hAe : va_A [(h0, .inr (0, [.int v0, .int v1, .int v2, .int v3, .int v4, .ref f5, .ref f6, .ref f7, .ref f8, .ref f9, .ref f10, .ref f11]))] s.heap.size = A at hD ⊢
  have hA : ∀ q : Nat, s.heap.size ≤ q → A q := fun q h => by rw [← hAe]; exact Or.inr h
  have hS : va_S A s.heap s.heap [] := va_S.rf
  have hP : va_P (dC, dI) vwCl [(h0, .inr (0, [.int v0, .int v1, .int v2, .int v3, .int v4, .ref f5, .ref f6, .ref f7, .ref f8, .ref f9, .ref f10, .ref f11]))] s.heap := hP
  have hl := lv_entry ([.ref h0, .int p0]) (n := 2) (Nat.le_of_ble_eq_true rfl)
  rw [lg_entry_eq]
  generalize (lg_sl ([.ref h0, .int p0]) ++ List.replicate (2 - (lg_sl ([.ref h0, .int p0])).length) Slot.unset).toArray = ls at hl ⊢
  have hl : lv_has ls 2 [(0, .ref h0), (1, .int p0)] := hl
  refine lv_iload_n hx hb dX0_hasPerson_0 rfl (lv_at hl 1 rfl) ?_
  refine lv_if_lt (tgt := 16) hx hb dX0_hasPerson_1 (by decide) (fun c_1 => ?_) (fun c_1 => ?_)
  · have i_1 : p0.toInt < 0 := Int32.lt_iff_toInt_lt.mp c_1
    refine lv_iconst (v := 0) hx hb dX0_hasPerson_16 (by decide) ?_
    have hP9 := hP.sub (ws' := [(h0, .inr (0, [.int v0, .int v1, .int v2, .int v3, .int v4, .ref f5, .ref f6, .ref f7, .ref f8, .ref f9, .ref f10, .ref f11]))]) [0] rfl
    have hD9 := hD.sub (ws' := [(h0, .inr (0, [.int v0, .int v1, .int v2, .int v3, .int v4, .ref f5, .ref f6, .ref f7, .ref f8, .ref f9, .ref f10, .ref f11]))]) [0] (by decide) rfl
    exact W.zret (v := 0) hx hb hr rfl (fun t ht hW => ⟨⟨0, (), rfl, (by first | rfl | decide | ((repeat' split) <;> first | rfl | (exfalso; omega))), by rw [ht]; exact hP9, va_K.moved hW.alike hK, hD9⟩, hS.F ht⟩) hS.2.2 dX0_hasPerson_17
  · have i_1 : 0 ≤ p0.toInt := Int32.le_iff_toInt_le.mp (Int32.not_lt.mp c_1)
    refine lv_iload_n hx hb dX0_hasPerson_4 rfl (lv_at hl 1 rfl) ?_
    refine lv_aload_n hx hb dX0_hasPerson_5 rfl (lv_at hl 0 rfl) ?_
    refine va_get (D := (dC, dI)) (ci := 0) (v := .int v3) (C := RX0) (T := TX0) (N := 12) hx hb hts i_c_X0_hasPerson_X0 hown hK hP 0 rfl rfl 3 (by decide) (hts (.fieldLink RX0 43 "OnePassport$Family" "persons" "I") (List.mem_of_getElem? (i := 1) rfl)) (fun _ h9 => h9) rfl dX0_hasPerson_6 ?_
    refine lv_icmp_ge (tgt := 16) hx hb dX0_hasPerson_9 (by decide) (fun c_2 => ?_) (fun c_2 => ?_)
    · have i_2 : v3.toInt ≤ p0.toInt := Int32.le_iff_toInt_le.mp c_2
      refine lv_iconst (v := 0) hx hb dX0_hasPerson_16 (by decide) ?_
      have hP9 := hP.sub (ws' := [(h0, .inr (0, [.int v0, .int v1, .int v2, .int v3, .int v4, .ref f5, .ref f6, .ref f7, .ref f8, .ref f9, .ref f10, .ref f11]))]) [0] rfl
      have hD9 := hD.sub (ws' := [(h0, .inr (0, [.int v0, .int v1, .int v2, .int v3, .int v4, .ref f5, .ref f6, .ref f7, .ref f8, .ref f9, .ref f10, .ref f11]))]) [0] (by decide) rfl
      exact W.zret (v := 0) hx hb hr rfl (fun t ht hW => ⟨⟨0, (), rfl, (by first | rfl | decide | ((repeat' split) <;> first | rfl | (exfalso; omega))), by rw [ht]; exact hP9, va_K.moved hW.alike hK, hD9⟩, hS.F ht⟩) hS.2.2 dX0_hasPerson_17
    · have i_2 : p0.toInt < v3.toInt := Int32.lt_iff_toInt_lt.mp (Int32.not_le.mp c_2)
      refine lv_iconst (v := 1) hx hb dX0_hasPerson_12 (by decide) ?_
      refine lv_goto (tgt := 17) hx hb dX0_hasPerson_13 (by decide) ?_
      have hP9 := hP.sub (ws' := [(h0, .inr (0, [.int v0, .int v1, .int v2, .int v3, .int v4, .ref f5, .ref f6, .ref f7, .ref f8, .ref f9, .ref f10, .ref f11]))]) [0] rfl
      have hD9 := hD.sub (ws' := [(h0, .inr (0, [.int v0, .int v1, .int v2, .int v3, .int v4, .ref f5, .ref f6, .ref f7, .ref f8, .ref f9, .ref f10, .ref f11]))]) [0] (by decide) rfl
      exact W.zret (v := 1) hx hb hr rfl (fun t ht hW => ⟨⟨1, (), rfl, (by first | rfl | decide | ((repeat' split) <;> first | rfl | (exfalso; omega))), by rw [ht]; exact hP9, va_K.moved hW.alike hK, hD9⟩, hS.F ht⟩) hS.2.2 dX0_hasPerson_17

theorem dX0_hasPost_0 : decode cX0_hasPost 0 = .ok (.iload_n 1, 1) := by decide +kernel
theorem dX0_hasPost_1 : decode cX0_hasPost 1 = .ok (.ifCond .lt 15, 3) := by decide +kernel
theorem dX0_hasPost_4 : decode cX0_hasPost 4 = .ok (.iload_n 1, 1) := by decide +kernel
theorem dX0_hasPost_5 : decode cX0_hasPost 5 = .ok (.aload_n 0, 1) := by decide +kernel
theorem dX0_hasPost_6 : decode cX0_hasPost 6 = .ok (.getfield 46, 3) := by decide +kernel
theorem dX0_hasPost_9 : decode cX0_hasPost 9 = .ok (.if_icmp .ge 7, 3) := by decide +kernel
theorem dX0_hasPost_12 : decode cX0_hasPost 12 = .ok (.iconst 1, 1) := by decide +kernel
theorem dX0_hasPost_13 : decode cX0_hasPost 13 = .ok (.goto 4, 3) := by decide +kernel
theorem dX0_hasPost_16 : decode cX0_hasPost 16 = .ok (.iconst 0, 1) := by decide +kernel
theorem dX0_hasPost_17 : decode cX0_hasPost 17 = .ok (.ireturn, 1) := by decide +kernel
def w_c_X0_hasPost : List Cond := .code yX0_hasPost cX0_hasPost 2 (some .boolean) :: ([.fieldLink RX0 46 "OnePassport$Family" "posts" "I"] ++ wsX00)
theorem i_c_X0_hasPost_X0 : ∀ w ∈ wsX00, w ∈ w_c_X0_hasPost := fun _ h => List.mem_cons_of_mem _ (List.mem_append_right _ h)
set_option maxHeartbeats 4000000 in
set_option maxRecDepth 100000 in
theorem c_X0_hasPost (l : Launch) (dC : Nat → ClassId) (dI : Nat → Nat → Nat) (h0 : Nat) (f5 : Nat) (f6 : Nat) (f7 : Nat) (f8 : Nat) (f9 : Nat) (f10 : Nat) (f11 : Nat) (v0 : Int32) (v1 : Int32) (v2 : Int32) (v3 : Int32) (v4 : Int32) (p0 : Int32) (sz : Nat) : Met l yX0_hasPost w_c_X0_hasPost ({ frames := 0, cells := 0, slots := 0, locals := 0 }) (va_Pc [.ref h0, .int p0] (fun U => U.heap.size = sz ∧ va_P (dC, dI) vwCl [(h0, .inr (0, [.int v0, .int v1, .int v2, .int v3, .int v4, .ref f5, .ref f6, .ref f7, .ref f8, .ref f9, .ref f10, .ref f11]))] U.heap ∧ va_K (dC, dI) vwCl [] U ∧ va_D (fun _ => True) [(h0, .inr (0, [.int v0, .int v1, .int v2, .int v3, .int v4, .ref f5, .ref f6, .ref f7, .ref f8, .ref f9, .ref f10, .ref f11]))])) (va_Qi (fun (r : Int32) (_ : Unit) => r = (if 0 ≤ p0.toInt ∧ p0.toInt < v4.toInt then 1 else 0)) (fun (_ : Unit) (t : State) => va_P (dC, dI) vwCl [(h0, .inr (0, [.int v0, .int v1, .int v2, .int v3, .int v4, .ref f5, .ref f6, .ref f7, .ref f8, .ref f9, .ref f10, .ref f11]))] t.heap ∧ va_K (dC, dI) vwCl [] t ∧ va_D (va_A [(h0, .inr (0, [.int v0, .int v1, .int v2, .int v3, .int v4, .ref f5, .ref f6, .ref f7, .ref f8, .ref f9, .ref f10, .ref f11]))] sz) [(h0, .inr (0, [.int v0, .int v1, .int v2, .int v3, .int v4, .ref f5, .ref f6, .ref f7, .ref f8, .ref f9, .ref f10, .ref f11]))]) (va_A [(h0, .inr (0, [.int v0, .int v1, .int v2, .int v3, .int v4, .ref f5, .ref f6, .ref f7, .ref f8, .ref f9, .ref f10, .ref f11]))] sz)) 0 0 (va_A [(h0, .inr (0, [.int v0, .int v1, .int v2, .int v3, .int v4, .ref f5, .ref f6, .ref f7, .ref f8, .ref f9, .ref f10, .ref f11]))] sz) := by
  refine Met.ofW (cc := cX0_hasPost) (maxL := 2) (ret := (some .boolean)) (by decide) rfl ?_
  intro p e s m args below meth c s₁ B hml hv
  obtain ⟨rfl, hsz, hP, hK, hD0⟩ := hv
  have hx := B.exec
  have hb := B.bytes
  have hr := B.returns
  have hts := atoms_spec (ws := w_c_X0_hasPost) B.pre
  have hown : s.vm.findClass RX0 = some m.cls := findClass_of_methodNamed B.named
  have hlocks := B.notSynchronized
  subst hsz
  have hD := hD0.self (sz := s.heap.size)
  generalize hAe : va_A [(h0, .inr (0, [.int v0, .int v1, .int v2, .int v3, .int v4, .ref f5, .ref f6, .ref f7, .ref f8, .ref f9, .ref f10, .ref f11]))] s.heap.size = A at hD ⊢
  have hA : ∀ q : Nat, s.heap.size ≤ q → A q := fun q h => by rw [← hAe]; exact Or.inr h
  have hS : va_S A s.heap s.heap [] := va_S.rf
  have hP : va_P (dC, dI) vwCl [(h0, .inr (0, [.int v0, .int v1, .int v2, .int v3, .int v4, .ref f5, .ref f6, .ref f7, .ref f8, .ref f9, .ref f10, .ref f11]))] s.heap := hP
  have hl := lv_entry ([.ref h0, .int p0]) (n := 2) (Nat.le_of_ble_eq_true rfl)
  rw [lg_entry_eq]
  generalize (lg_sl ([.ref h0, .int p0]) ++ List.replicate (2 - (lg_sl ([.ref h0, .int p0])).length) Slot.unset).toArray = ls at hl ⊢
  have hl : lv_has ls 2 [(0, .ref h0), (1, .int p0)] := hl
  refine lv_iload_n hx hb dX0_hasPost_0 rfl (lv_at hl 1 rfl) ?_
  refine lv_if_lt (tgt := 16) hx hb dX0_hasPost_1 (by decide) (fun c_1 => ?_) (fun c_1 => ?_)
  · have i_1 : p0.toInt < 0 := Int32.lt_iff_toInt_lt.mp c_1
    refine lv_iconst (v := 0) hx hb dX0_hasPost_16 (by decide) ?_
    have hP9 := hP.sub (ws' := [(h0, .inr (0, [.int v0, .int v1, .int v2, .int v3, .int v4, .ref f5, .ref f6, .ref f7, .ref f8, .ref f9, .ref f10, .ref f11]))]) [0] rfl
    have hD9 := hD.sub (ws' := [(h0, .inr (0, [.int v0, .int v1, .int v2, .int v3, .int v4, .ref f5, .ref f6, .ref f7, .ref f8, .ref f9, .ref f10, .ref f11]))]) [0] (by decide) rfl
    exact W.zret (v := 0) hx hb hr rfl (fun t ht hW => ⟨⟨0, (), rfl, (by first | rfl | decide | ((repeat' split) <;> first | rfl | (exfalso; omega))), by rw [ht]; exact hP9, va_K.moved hW.alike hK, hD9⟩, hS.F ht⟩) hS.2.2 dX0_hasPost_17
  · have i_1 : 0 ≤ p0.toInt := Int32.le_iff_toInt_le.mp (Int32.not_lt.mp c_1)
    refine lv_iload_n hx hb dX0_hasPost_4 rfl (lv_at hl 1 rfl) ?_
    refine lv_aload_n hx hb dX0_hasPost_5 rfl (lv_at hl 0 rfl) ?_
    refine va_get (D := (dC, dI)) (ci := 0) (v := .int v4) (C := RX0) (T := TX0) (N := 12) hx hb hts i_c_X0_hasPost_X0 hown hK hP 0 rfl rfl 4 (by decide) (hts (.fieldLink RX0 46 "OnePassport$Family" "posts" "I") (List.mem_of_getElem? (i := 1) rfl)) (fun _ h9 => h9) rfl dX0_hasPost_6 ?_
    refine lv_icmp_ge (tgt := 16) hx hb dX0_hasPost_9 (by decide) (fun c_2 => ?_) (fun c_2 => ?_)
    · have i_2 : v4.toInt ≤ p0.toInt := Int32.le_iff_toInt_le.mp c_2
      refine lv_iconst (v := 0) hx hb dX0_hasPost_16 (by decide) ?_
      have hP9 := hP.sub (ws' := [(h0, .inr (0, [.int v0, .int v1, .int v2, .int v3, .int v4, .ref f5, .ref f6, .ref f7, .ref f8, .ref f9, .ref f10, .ref f11]))]) [0] rfl
      have hD9 := hD.sub (ws' := [(h0, .inr (0, [.int v0, .int v1, .int v2, .int v3, .int v4, .ref f5, .ref f6, .ref f7, .ref f8, .ref f9, .ref f10, .ref f11]))]) [0] (by decide) rfl
      exact W.zret (v := 0) hx hb hr rfl (fun t ht hW => ⟨⟨0, (), rfl, (by first | rfl | decide | ((repeat' split) <;> first | rfl | (exfalso; omega))), by rw [ht]; exact hP9, va_K.moved hW.alike hK, hD9⟩, hS.F ht⟩) hS.2.2 dX0_hasPost_17
    · have i_2 : p0.toInt < v4.toInt := Int32.lt_iff_toInt_lt.mp (Int32.not_le.mp c_2)
      refine lv_iconst (v := 1) hx hb dX0_hasPost_12 (by decide) ?_
      refine lv_goto (tgt := 17) hx hb dX0_hasPost_13 (by decide) ?_
      have hP9 := hP.sub (ws' := [(h0, .inr (0, [.int v0, .int v1, .int v2, .int v3, .int v4, .ref f5, .ref f6, .ref f7, .ref f8, .ref f9, .ref f10, .ref f11]))]) [0] rfl
      have hD9 := hD.sub (ws' := [(h0, .inr (0, [.int v0, .int v1, .int v2, .int v3, .int v4, .ref f5, .ref f6, .ref f7, .ref f8, .ref f9, .ref f10, .ref f11]))]) [0] (by decide) rfl
      exact W.zret (v := 1) hx hb hr rfl (fun t ht hW => ⟨⟨1, (), rfl, (by first | rfl | decide | ((repeat' split) <;> first | rfl | (exfalso; omega))), by rw [ht]; exact hP9, va_K.moved hW.alike hK, hD9⟩, hS.F ht⟩) hS.2.2 dX0_hasPost_17

theorem dX0_hasCrossing_0 : decode cX0_hasCrossing 0 = .ok (.aload_n 0, 1) := by decide +kernel
theorem dX0_hasCrossing_1 : decode cX0_hasCrossing 1 = .ok (.iload_n 1, 1) := by decide +kernel
theorem dX0_hasCrossing_2 : decode cX0_hasCrossing 2 = .ok (.invokevirtual 55, 3) := by decide +kernel
theorem dX0_hasCrossing_5 : decode cX0_hasCrossing 5 = .ok (.ifCond .eq 23, 3) := by decide +kernel
theorem dX0_hasCrossing_28 : decode cX0_hasCrossing 28 = .ok (.iconst 0, 1) := by decide +kernel
theorem dX0_hasCrossing_29 : decode cX0_hasCrossing 29 = .ok (.ireturn, 1) := by decide +kernel
def w_c_X0_hasCrossing_0 : List Cond := .code yX0_hasCrossing cX0_hasCrossing 4 (some .boolean) :: ([.methodLink RX0 55 yX0_hasPerson, .instanceMethod yX0_hasPerson, .selects RX0 yX0_hasPerson yX0_hasPerson, .initialized RX0, .code yX0_hasPerson cX0_hasPerson 2 (some .boolean), .fieldLink RX0 43 "OnePassport$Family" "persons" "I"] ++ wsX00)
theorem i_c_X0_hasCrossing_0_X0 : ∀ w ∈ wsX00, w ∈ w_c_X0_hasCrossing_0 := fun _ h => List.mem_cons_of_mem _ (List.mem_append_right _ h)
set_option maxRecDepth 100000 in
theorem g_c_X0_hasCrossing_0_0 : GoodIn w_c_X0_hasCrossing_0 (wsV RX0 55 RX0 yX0_hasPerson w_c_X0_hasPerson) := goodIn_of _ (by decide +kernel)
set_option maxHeartbeats 4000000 in
set_option maxRecDepth 100000 in
theorem c_X0_hasCrossing_0 (l : Launch) (dC : Nat → ClassId) (dI : Nat → Nat → Nat) (h0 : Nat) (f5 : Nat) (f6 : Nat) (f7 : Nat) (f8 : Nat) (f9 : Nat) (f10 : Nat) (f11 : Nat) (p0 : Int32) (p1 : Int32) (p2 : Int32) (sz : Nat) : Met l yX0_hasCrossing w_c_X0_hasCrossing_0 ({ frames := 1, cells := 0, slots := 0, locals := 21 }) (va_Pc [.ref h0, .int p0, .int p1, .int p2] (fun U => U.heap.size = sz ∧ va_P (dC, dI) vwCl [(h0, .inr (0, [.int 0, .int 0, .int 0, .int 0, .int 0, .ref f5, .ref f6, .ref f7, .ref f8, .ref f9, .ref f10, .ref f11]))] U.heap ∧ va_K (dC, dI) vwCl [] U ∧ va_D (fun _ => True) [(h0, .inr (0, [.int 0, .int 0, .int 0, .int 0, .int 0, .ref f5, .ref f6, .ref f7, .ref f8, .ref f9, .ref f10, .ref f11]))])) (va_Qi (fun (r : Int32) (_ : Unit) => r = 0) (fun (_ : Unit) (t : State) => va_P (dC, dI) vwCl [(h0, .inr (0, [.int 0, .int 0, .int 0, .int 0, .int 0, .ref f5, .ref f6, .ref f7, .ref f8, .ref f9, .ref f10, .ref f11]))] t.heap ∧ va_K (dC, dI) vwCl [] t ∧ va_D (va_A [(h0, .inr (0, [.int 0, .int 0, .int 0, .int 0, .int 0, .ref f5, .ref f6, .ref f7, .ref f8, .ref f9, .ref f10, .ref f11]))] sz) [(h0, .inr (0, [.int 0, .int 0, .int 0, .int 0, .int 0, .ref f5, .ref f6, .ref f7, .ref f8, .ref f9, .ref f10, .ref f11]))]) (va_A [(h0, .inr (0, [.int 0, .int 0, .int 0, .int 0, .int 0, .ref f5, .ref f6, .ref f7, .ref f8, .ref f9, .ref f10, .ref f11]))] sz)) 0 0 (va_A [(h0, .inr (0, [.int 0, .int 0, .int 0, .int 0, .int 0, .ref f5, .ref f6, .ref f7, .ref f8, .ref f9, .ref f10, .ref f11]))] sz) := by
  refine Met.ofW (cc := cX0_hasCrossing) (maxL := 4) (ret := (some .boolean)) (by decide) rfl ?_
  intro p e s m args below meth c s₁ B hml hv
  obtain ⟨rfl, hsz, hP, hK, hD0⟩ := hv
  have hx := B.exec
  have hb := B.bytes
  have hr := B.returns
  have hts := atoms_spec (ws := w_c_X0_hasCrossing_0) B.pre
  have hown : s.vm.findClass RX0 = some m.cls := findClass_of_methodNamed B.named
  have hlocks := B.notSynchronized
  subst hsz
  have hD := hD0.self (sz := s.heap.size)
  generalize hAe : va_A [(h0, .inr (0, [.int 0, .int 0, .int 0, .int 0, .int 0, .ref f5, .ref f6, .ref f7, .ref f8, .ref f9, .ref f10, .ref f11]))] s.heap.size = A at hD ⊢
  have hA : ∀ q : Nat, s.heap.size ≤ q → A q := fun q h => by rw [← hAe]; exact Or.inr h
  have hS : va_S A s.heap s.heap [] := va_S.rf
  have hP : va_P (dC, dI) vwCl [(h0, .inr (0, [.int 0, .int 0, .int 0, .int 0, .int 0, .ref f5, .ref f6, .ref f7, .ref f8, .ref f9, .ref f10, .ref f11]))] s.heap := hP
  have hl := lv_entry ([.ref h0, .int p0, .int p1, .int p2]) (n := 4) (Nat.le_of_ble_eq_true rfl)
  rw [lg_entry_eq]
  generalize (lg_sl ([.ref h0, .int p0, .int p1, .int p2]) ++ List.replicate (4 - (lg_sl ([.ref h0, .int p0, .int p1, .int p2])).length) Slot.unset).toArray = ls at hl ⊢
  have hl : lv_has ls 4 [(0, .ref h0), (1, .int p0), (2, .int p1), (3, .int p2)] := hl
  refine lv_aload_n hx hb dX0_hasCrossing_0 rfl (lv_at hl 0 rfl) ?_
  refine lv_iload_n hx hb dX0_hasCrossing_1 rfl (lv_at hl 1 rfl) ?_
  have hPc := hP.sub (ws' := [(h0, .inr (0, [.int 0, .int 0, .int 0, .int 0, .int 0, .ref f5, .ref f6, .ref f7, .ref f8, .ref f9, .ref f10, .ref f11]))]) [0] rfl
  have hDc := hD.sub (ws' := [(h0, .inr (0, [.int 0, .int 0, .int 0, .int 0, .int 0, .ref f5, .ref f6, .ref f7, .ref f8, .ref f9, .ref f10, .ref f11]))]) [0] (by decide) rfl
  have hKc := hK.sub (tys' := []) [] rfl
  have hFc := va_free (wc := [(h0, .inr (0, [.int 0, .int 0, .int 0, .int 0, .int 0, .ref f5, .ref f6, .ref f7, .ref f8, .ref f9, .ref f10, .ref f11]))]) hD hS hA [0] rfl
  refine va_calli (va_runV (As := [.int p0]) (rest := []) ⟨hx, hb, hml, hown, hts⟩ (c_X0_hasPerson l dC dI h0 f5 f6 f7 f8 f9 f10 f11 0 0 0 0 0 p0 s.heap.size) (cwV 1 hts g_c_X0_hasCrossing_0_0 rfl rfl rfl (by decide +kernel) ⟨Nat.le_of_ble_eq_true rfl, Nat.le_of_ble_eq_true rfl⟩) ⟨fun a U g mk q => by obtain ⟨q0, q1, qP, qK, qD⟩ := q; exact ⟨q0, q1, qP, va_K.moved (u := U) (U := U.calling g mk a) (Vm.Alike.refl U.vm) qK, qD⟩, va_recv hKc hPc (ci := 0) (q0 := 0) rfl rfl, fun U hU hW => ⟨rfl, by rw [hU], by rw [hU]; exact hPc, va_K.moved hW.alike hKc, hDc.weaken (fun _ _ _ _ => trivial)⟩⟩ rfl rfl hl.1 rfl (lv_room (Nat.le_of_ble_eq_true rfl)) dX0_hasCrossing_2 ⟨Nat.le_of_ble_eq_true rfl, Nat.le_of_ble_eq_true rfl⟩) hS (fun q _ h => hFc q h) hFc (fun r_1 u t H1 locs ht hvm hw hB hz1 hk1 hS => ?_)
  obtain ⟨hP1, hK1, hD1⟩ := hB
  rw [ht] at hP1
  try dsimp only at hw
  obtain ⟨hP, hD⟩ := va_join (wr := []) (w1 := [(h0, .inr (0, [.int 0, .int 0, .int 0, .int 0, .int 0, .ref f5, .ref f6, .ref f7, .ref f8, .ref f9, .ref f10, .ref f11]))]) hP hD [0] [] rfl rfl (by decide) (by decide) hk1 hFc hP1 hD1
  clear hPc hDc hKc hFc hk1 hP1 hK1 hD1
  generalize H1 = H at hP hS ⊢
  have hP : va_P (dC, dI) vwCl [(h0, .inr (0, [.int 0, .int 0, .int 0, .int 0, .int 0, .ref f5, .ref f6, .ref f7, .ref f8, .ref f9, .ref f10, .ref f11]))] H := hP
  have hD : va_D A [(h0, .inr (0, [.int 0, .int 0, .int 0, .int 0, .int 0, .ref f5, .ref f6, .ref f7, .ref f8, .ref f9, .ref f10, .ref f11]))] := hD
  have er_1 : r_1 = 0 := hw.trans (if_neg (fun h => by have h1 := h.1; have h2 : _ < (0 : Int) := h.2; omega))
  refine wx_ti (y := 0) er_1 ?_
  refine lv_if_eq (tgt := 28) hx hb dX0_hasCrossing_5 (by decide) (fun c_2 => ?_) (fun c_2 => absurd rfl c_2)
  refine lv_iconst (v := 0) hx hb dX0_hasCrossing_28 (by decide) ?_
  have hP9 := hP.sub (ws' := [(h0, .inr (0, [.int 0, .int 0, .int 0, .int 0, .int 0, .ref f5, .ref f6, .ref f7, .ref f8, .ref f9, .ref f10, .ref f11]))]) [0] rfl
  have hD9 := hD.sub (ws' := [(h0, .inr (0, [.int 0, .int 0, .int 0, .int 0, .int 0, .ref f5, .ref f6, .ref f7, .ref f8, .ref f9, .ref f10, .ref f11]))]) [0] (by decide) rfl
  exact W.zret (v := 0) hx hb hr rfl (fun t ht hW => ⟨⟨0, (), rfl, rfl, by rw [ht]; exact hP9, va_K.moved hW.alike hK, hD9⟩, hS.F ht⟩) hS.2.2 dX0_hasCrossing_29

theorem dX8_exists_0 : decode cX8_exists 0 = .ok (.iload_n 1, 1) := by decide +kernel
theorem dX8_exists_1 : decode cX8_exists 1 = .ok (.ifCond .lt 12, 3) := by decide +kernel
theorem dX8_exists_4 : decode cX8_exists 4 = .ok (.iload_n 1, 1) := by decide +kernel
theorem dX8_exists_5 : decode cX8_exists 5 = .ok (.iconst 4, 1) := by decide +kernel
theorem dX8_exists_6 : decode cX8_exists 6 = .ok (.if_icmp .ge 7, 3) := by decide +kernel
theorem dX8_exists_9 : decode cX8_exists 9 = .ok (.iconst 1, 1) := by decide +kernel
theorem dX8_exists_10 : decode cX8_exists 10 = .ok (.goto 4, 3) := by decide +kernel
theorem dX8_exists_13 : decode cX8_exists 13 = .ok (.iconst 0, 1) := by decide +kernel
theorem dX8_exists_14 : decode cX8_exists 14 = .ok (.ireturn, 1) := by decide +kernel
def w_c_X8_exists : List Cond := .code yX8_exists cX8_exists 2 (some .boolean) :: ([])
set_option maxHeartbeats 4000000 in
set_option maxRecDepth 100000 in
theorem c_X8_exists (l : Launch) (dC : Nat → ClassId) (dI : Nat → Nat → Nat) (h0 : Nat) (sn : Nat) (sw : Nat) (ss : Nat) (p0 : Int32) (sz : Nat) : Met l yX8_exists w_c_X8_exists ({ frames := 0, cells := 0, slots := 0, locals := 0 }) (va_Pc [.ref h0, .int p0] (fun U => U.heap.size = sz ∧ va_P (dC, dI) vwCl [(h0, .inr (8, [.ref sn, .ref sw, .ref ss]))] U.heap ∧ va_K (dC, dI) vwCl [] U ∧ va_D (fun _ => True) [(h0, .inr (8, [.ref sn, .ref sw, .ref ss]))])) (va_Qi (fun (r : Int32) (_ : Unit) => r = (if 0 ≤ p0.toInt ∧ p0.toInt ≤ 3 then 1 else 0)) (fun (_ : Unit) (t : State) => va_P (dC, dI) vwCl [(h0, .inr (8, [.ref sn, .ref sw, .ref ss]))] t.heap ∧ va_K (dC, dI) vwCl [] t ∧ va_D (va_A [(h0, .inr (8, [.ref sn, .ref sw, .ref ss]))] sz) [(h0, .inr (8, [.ref sn, .ref sw, .ref ss]))]) (va_A [(h0, .inr (8, [.ref sn, .ref sw, .ref ss]))] sz)) 0 0 (va_A [(h0, .inr (8, [.ref sn, .ref sw, .ref ss]))] sz) := by
  refine Met.ofW (cc := cX8_exists) (maxL := 2) (ret := (some .boolean)) (by decide) rfl ?_
  intro p e s m args below meth c s₁ B hml hv
  obtain ⟨rfl, hsz, hP, hK, hD0⟩ := hv
  have hx := B.exec
  have hb := B.bytes
  have hr := B.returns
  have hts := atoms_spec (ws := w_c_X8_exists) B.pre
  have hown : s.vm.findClass RX8 = some m.cls := findClass_of_methodNamed B.named
  have hlocks := B.notSynchronized
  subst hsz
  have hD := hD0.self (sz := s.heap.size)
  generalize hAe : va_A [(h0, .inr (8, [.ref sn, .ref sw, .ref ss]))] s.heap.size = A at hD ⊢
  have hA : ∀ q : Nat, s.heap.size ≤ q → A q := fun q h => by rw [← hAe]; exact Or.inr h
  have hS : va_S A s.heap s.heap [] := va_S.rf
  have hP : va_P (dC, dI) vwCl [(h0, .inr (8, [.ref sn, .ref sw, .ref ss]))] s.heap := hP
  have hl := lv_entry ([.ref h0, .int p0]) (n := 2) (Nat.le_of_ble_eq_true rfl)
  rw [lg_entry_eq]
  generalize (lg_sl ([.ref h0, .int p0]) ++ List.replicate (2 - (lg_sl ([.ref h0, .int p0])).length) Slot.unset).toArray = ls at hl ⊢
  have hl : lv_has ls 2 [(0, .ref h0), (1, .int p0)] := hl
  refine lv_iload_n hx hb dX8_exists_0 rfl (lv_at hl 1 rfl) ?_
  refine lv_if_lt (tgt := 13) hx hb dX8_exists_1 (by decide) (fun c_1 => ?_) (fun c_1 => ?_)
  · have i_1 : p0.toInt < 0 := Int32.lt_iff_toInt_lt.mp c_1
    refine lv_iconst (v := 0) hx hb dX8_exists_13 (by decide) ?_
    have hP9 := hP.sub (ws' := [(h0, .inr (8, [.ref sn, .ref sw, .ref ss]))]) [0] rfl
    have hD9 := hD.sub (ws' := [(h0, .inr (8, [.ref sn, .ref sw, .ref ss]))]) [0] (by decide) rfl
    exact W.zret (v := 0) hx hb hr rfl (fun t ht hW => ⟨⟨0, (), rfl, (by first | rfl | decide | ((repeat' split) <;> first | rfl | (exfalso; omega))), by rw [ht]; exact hP9, va_K.moved hW.alike hK, hD9⟩, hS.F ht⟩) hS.2.2 dX8_exists_14
  · have i_1 : 0 ≤ p0.toInt := Int32.le_iff_toInt_le.mp (Int32.not_lt.mp c_1)
    refine lv_iload_n hx hb dX8_exists_4 rfl (lv_at hl 1 rfl) ?_
    refine lv_iconst (v := 4) hx hb dX8_exists_5 (by decide) ?_
    refine lv_icmp_ge (tgt := 13) hx hb dX8_exists_6 (by decide) (fun c_2 => ?_) (fun c_2 => ?_)
    · have i_2 : 4 ≤ p0.toInt := Int32.le_iff_toInt_le.mp c_2
      refine lv_iconst (v := 0) hx hb dX8_exists_13 (by decide) ?_
      have hP9 := hP.sub (ws' := [(h0, .inr (8, [.ref sn, .ref sw, .ref ss]))]) [0] rfl
      have hD9 := hD.sub (ws' := [(h0, .inr (8, [.ref sn, .ref sw, .ref ss]))]) [0] (by decide) rfl
      exact W.zret (v := 0) hx hb hr rfl (fun t ht hW => ⟨⟨0, (), rfl, (by first | rfl | decide | ((repeat' split) <;> first | rfl | (exfalso; omega))), by rw [ht]; exact hP9, va_K.moved hW.alike hK, hD9⟩, hS.F ht⟩) hS.2.2 dX8_exists_14
    · have i_2 : p0.toInt < 4 := Int32.lt_iff_toInt_lt.mp (Int32.not_le.mp c_2)
      refine lv_iconst (v := 1) hx hb dX8_exists_9 (by decide) ?_
      refine lv_goto (tgt := 14) hx hb dX8_exists_10 (by decide) ?_
      have hP9 := hP.sub (ws' := [(h0, .inr (8, [.ref sn, .ref sw, .ref ss]))]) [0] rfl
      have hD9 := hD.sub (ws' := [(h0, .inr (8, [.ref sn, .ref sw, .ref ss]))]) [0] (by decide) rfl
      exact W.zret (v := 1) hx hb hr rfl (fun t ht hW => ⟨⟨1, (), rfl, (by first | rfl | decide | ((repeat' split) <;> first | rfl | (exfalso; omega))), by rw [ht]; exact hP9, va_K.moved hW.alike hK, hD9⟩, hS.F ht⟩) hS.2.2 dX8_exists_14

theorem dX8_hasRow_0 : decode cX8_hasRow 0 = .ok (.aload_n 0, 1) := by decide +kernel
theorem dX8_hasRow_1 : decode cX8_hasRow 1 = .ok (.getfield 20, 3) := by decide +kernel
theorem dX8_hasRow_4 : decode cX8_hasRow 4 = .ok (.iload_n 1, 1) := by decide +kernel
theorem dX8_hasRow_5 : decode cX8_hasRow 5 = .ok (.iaload, 1) := by decide +kernel
theorem dX8_hasRow_6 : decode cX8_hasRow 6 = .ok (.iconst (-1), 1) := by decide +kernel
theorem dX8_hasRow_7 : decode cX8_hasRow 7 = .ok (.if_icmp .eq 7, 3) := by decide +kernel
theorem dX8_hasRow_14 : decode cX8_hasRow 14 = .ok (.iconst 0, 1) := by decide +kernel
theorem dX8_hasRow_15 : decode cX8_hasRow 15 = .ok (.ireturn, 1) := by decide +kernel
def w_c_X8_hasRow_0 : List Cond := .code yX8_hasRow cX8_hasRow 2 (some .boolean) :: ([.fieldLink RX8 20 "OnePassport$Slots" "size" "[I"] ++ wsX80)
theorem i_c_X8_hasRow_0_X8 : ∀ w ∈ wsX80, w ∈ w_c_X8_hasRow_0 := fun _ h => List.mem_cons_of_mem _ (List.mem_append_right _ h)
set_option maxHeartbeats 4000000 in
set_option maxRecDepth 100000 in
theorem c_X8_hasRow_0 (l : Launch) (dC : Nat → ClassId) (dI : Nat → Nat → Nat) (cI : ClassId) (h0 : Nat) (sn : Nat) (sw : Nat) (ss : Nat) (p0 : Int32) (hp : vp_in p0 4) (sz : Nat) : Met l yX8_hasRow w_c_X8_hasRow_0 ({ frames := 0, cells := 0, slots := 0, locals := 0 }) (va_Pc [.ref h0, .int p0] (fun U => U.heap.size = sz ∧ va_P (dC, dI) vwCl [(h0, .inr (8, [.ref sn, .ref sw, .ref ss])), (ss, .inl (cI, 4, .inl (fun _ => (-1))))] U.heap ∧ va_K (dC, dI) vwCl [(cI, .int)] U ∧ va_D (fun _ => True) [(h0, .inr (8, [.ref sn, .ref sw, .ref ss])), (ss, .inl (cI, 4, .inl (fun _ => (-1))))])) (va_Qi (fun (r : Int32) (_ : Unit) => r = 0) (fun (_ : Unit) (t : State) => va_P (dC, dI) vwCl [(h0, .inr (8, [.ref sn, .ref sw, .ref ss])), (ss, .inl (cI, 4, .inl (fun _ => (-1))))] t.heap ∧ va_K (dC, dI) vwCl [(cI, .int)] t ∧ va_D (va_A [(h0, .inr (8, [.ref sn, .ref sw, .ref ss])), (ss, .inl (cI, 4, .inl (fun _ => (-1))))] sz) [(h0, .inr (8, [.ref sn, .ref sw, .ref ss])), (ss, .inl (cI, 4, .inl (fun _ => (-1))))]) (va_A [(h0, .inr (8, [.ref sn, .ref sw, .ref ss])), (ss, .inl (cI, 4, .inl (fun _ => (-1))))] sz)) 0 0 (va_A [(h0, .inr (8, [.ref sn, .ref sw, .ref ss])), (ss, .inl (cI, 4, .inl (fun _ => (-1))))] sz) := by
  refine Met.ofW (cc := cX8_hasRow) (maxL := 2) (ret := (some .boolean)) (by decide) rfl ?_
  intro p e s m args below meth c s₁ B hml hv
  obtain ⟨rfl, hsz, hP, hK, hD0⟩ := hv
  have hx := B.exec
  have hb := B.bytes
  have hr := B.returns
  have hts := atoms_spec (ws := w_c_X8_hasRow_0) B.pre
  have hown : s.vm.findClass RX8 = some m.cls := findClass_of_methodNamed B.named
  have hlocks := B.notSynchronized
  subst hsz
  have hD := hD0.self (sz := s.heap.size)
  generalize hAe : va_A [(h0, .inr (8, [.ref sn, .ref sw, .ref ss])), (ss, .inl (cI, 4, .inl (fun _ => (-1))))] s.heap.size = A at hD ⊢
  have hA : ∀ q : Nat, s.heap.size ≤ q → A q := fun q h => by rw [← hAe]; exact Or.inr h
  have hS : va_S A s.heap s.heap [] := va_S.rf
  have hP : va_P (dC, dI) vwCl [(h0, .inr (8, [.ref sn, .ref sw, .ref ss])), (ss, .inl (cI, 4, .inl (fun _ => (-1))))] s.heap := hP
  have hl := lv_entry ([.ref h0, .int p0]) (n := 2) (Nat.le_of_ble_eq_true rfl)
  rw [lg_entry_eq]
  generalize (lg_sl ([.ref h0, .int p0]) ++ List.replicate (2 - (lg_sl ([.ref h0, .int p0])).length) Slot.unset).toArray = ls at hl ⊢
  have hl : lv_has ls 2 [(0, .ref h0), (1, .int p0)] := hl
  refine lv_aload_n hx hb dX8_hasRow_0 rfl (lv_at hl 0 rfl) ?_
  refine va_get (D := (dC, dI)) (ci := 8) (v := .ref ss) (C := RX8) (T := TX8) (N := 3) hx hb hts i_c_X8_hasRow_0_X8 hown hK hP 0 rfl rfl 2 (by decide) (hts (.fieldLink RX8 20 "OnePassport$Slots" "size" "[I") (List.mem_of_getElem? (i := 1) rfl)) (fun _ h9 => h9) rfl dX8_hasRow_1 ?_
  refine lv_iload_n hx hb dX8_hasRow_4 rfl (lv_at hl 1 rfl) ?_
  refine va_iald hx hb hK hP 1 0 rfl rfl (i := p0) hp dX8_hasRow_5 ?_
  refine wx_ti (y := (-1)) rfl ?_
  refine lv_iconst (v := (-1)) hx hb dX8_hasRow_6 (by decide) ?_
  refine lv_icmp_eq (tgt := 14) hx hb dX8_hasRow_7 (by decide) (fun c_1 => ?_) (fun c_1 => absurd rfl c_1)
  refine lv_iconst (v := 0) hx hb dX8_hasRow_14 (by decide) ?_
  have hP9 := hP.sub (ws' := [(h0, .inr (8, [.ref sn, .ref sw, .ref ss])), (ss, .inl (cI, 4, .inl (fun _ => (-1))))]) [0, 1] rfl
  have hD9 := hD.sub (ws' := [(h0, .inr (8, [.ref sn, .ref sw, .ref ss])), (ss, .inl (cI, 4, .inl (fun _ => (-1))))]) [0, 1] (by decide) rfl
  exact W.zret (v := 0) hx hb hr rfl (fun t ht hW => ⟨⟨0, (), rfl, rfl, by rw [ht]; exact hP9, va_K.moved hW.alike hK, hD9⟩, hS.F ht⟩) hS.2.2 dX8_hasRow_15
