theorem dX6_longer_0 : decode cX6_longer 0 = .ok (.iload_n 0, 1) := by decide +kernel
theorem dX6_longer_1 : decode cX6_longer 1 = .ok (.iconst 2, 1) := by decide +kernel
theorem dX6_longer_2 : decode cX6_longer 2 = .ok (.imul, 1) := by decide +kernel
theorem dX6_longer_3 : decode cX6_longer 3 = .ok (.iload_n 1, 1) := by decide +kernel
theorem dX6_longer_4 : decode cX6_longer 4 = .ok (.iadd, 1) := by decide +kernel
theorem dX6_longer_5 : decode cX6_longer 5 = .ok (.istore_n 2, 1) := by decide +kernel
theorem dX6_longer_6 : decode cX6_longer 6 = .ok (.iload_n 2, 1) := by decide +kernel
theorem dX6_longer_7 : decode cX6_longer 7 = .ok (.bipush 16, 2) := by decide +kernel
theorem dX6_longer_9 : decode cX6_longer 9 = .ok (.if_icmp .ge 7, 3) := by decide +kernel
theorem dX6_longer_12 : decode cX6_longer 12 = .ok (.iload_n 2, 1) := by decide +kernel
theorem dX6_longer_13 : decode cX6_longer 13 = .ok (.goto 10, 3) := by decide +kernel
theorem dX6_longer_16 : decode cX6_longer 16 = .ok (.bipush 8, 2) := by decide +kernel
theorem dX6_longer_18 : decode cX6_longer 18 = .ok (.iload_n 2, 1) := by decide +kernel
theorem dX6_longer_19 : decode cX6_longer 19 = .ok (.bipush 7, 2) := by decide +kernel
theorem dX6_longer_21 : decode cX6_longer 21 = .ok (.iand, 1) := by decide +kernel
theorem dX6_longer_22 : decode cX6_longer 22 = .ok (.ior, 1) := by decide +kernel
theorem dX6_longer_23 : decode cX6_longer 23 = .ok (.ireturn, 1) := by decide +kernel
def w_c_X6_longer : List Cond := .code yX6_longer cX6_longer 3 (some .int) :: ([])
set_option maxHeartbeats 4000000 in
set_option maxRecDepth 100000 in
theorem c_X6_longer (l : Launch) (dC : Nat → ClassId) (dI : Nat → Nat → Nat) (tr : Nat) (br : Nat) (htr : tr < 16) (hbr : br < 2) (sz : Nat) : Met l yX6_longer w_c_X6_longer ({ frames := 0, cells := 0, slots := 0, locals := 0 }) (va_Pc [.int (nI tr), .int (nI br)] (fun U => U.heap.size = sz ∧ va_P (dC, dI) vwCl [] U.heap ∧ va_K (dC, dI) vwCl [] U ∧ va_D (fun _ => True) [])) (va_Qi (fun (r : Int32) (_ : Unit) => ∃ k, k < 16 ∧ r = nI k) (fun (_ : Unit) (t : State) => va_P (dC, dI) vwCl [] t.heap ∧ va_K (dC, dI) vwCl [] t ∧ va_D (va_A [] sz) []) (va_A [] sz)) 0 0 (va_A [] sz) := by
  refine Met.ofW (cc := cX6_longer) (maxL := 3) (ret := (some .int)) (by decide) rfl ?_
  intro p e s m args below meth c s₁ B hml hv
  obtain ⟨rfl, hsz, hP, hK, hD0⟩ := hv
  have hx := B.exec
  have hb := B.bytes
  have hr := B.returns
  have hts := atoms_spec (ws := w_c_X6_longer) B.pre
  have hown : s.vm.findClass RX6 = some m.cls := findClass_of_methodNamed B.named
  have hlocks := B.notSynchronized
  subst hsz
  have hD := hD0.self (sz := s.heap.size)
  generalize hAe : va_A [] s.heap.size = A at hD ⊢
  have hA : ∀ q : Nat, s.heap.size ≤ q → A q := fun q h => by rw [← hAe]; exact Or.inr h
  have hS : va_S A s.heap s.heap [] := va_S.rf
  have hP : va_P (dC, dI) vwCl [] s.heap := hP
  have hl := lv_entry ([.int (nI tr), .int (nI br)]) (n := 3) (Nat.le_of_ble_eq_true rfl)
  rw [lg_entry_eq]
  generalize (lg_sl ([.int (nI tr), .int (nI br)]) ++ List.replicate (3 - (lg_sl ([.int (nI tr), .int (nI br)])).length) Slot.unset).toArray = ls at hl ⊢
  have hl : lv_has ls 3 [(0, .int (nI tr)), (1, .int (nI br))] := hl
  refine lv_iload_n hx hb dX6_longer_0 rfl (lv_at hl 0 rfl) ?_
  refine lv_iconst (v := 2) hx hb dX6_longer_1 (by decide) ?_
  refine lv_imul hx hb dX6_longer_2 ?_
  refine lv_iload_n hx hb dX6_longer_3 rfl (lv_at hl 1 rfl) ?_
  refine lv_iadd hx hb dX6_longer_4 ?_
  refine lv_istore_n (lv' := [(2, .int (((nI tr) * 2) + (nI br))), (0, .int (nI tr)), (1, .int (nI br))]) hx hb dX6_longer_5 rfl hl (by decide) rfl (fun ls hl => ?_)
  refine lv_iload_n hx hb dX6_longer_6 rfl (lv_at hl 0 rfl) ?_
  refine lv_bipush (v := 16) hx hb dX6_longer_7 (by decide) ?_
  refine lv_icmp_ge (tgt := 16) hx hb dX6_longer_9 (by decide) (fun c_1 => ?_) (fun c_1 => ?_)
  · have i_1 : 16 ≤ (((nI tr) * 2) + (nI br)).toInt := Int32.le_iff_toInt_le.mp c_1
    refine lv_bipush (v := 8) hx hb dX6_longer_16 (by decide) ?_
    refine lv_iload_n hx hb dX6_longer_18 rfl (lv_at hl 0 rfl) ?_
    refine lv_bipush (v := 7) hx hb dX6_longer_19 (by decide) ?_
    refine lv_iand hx hb dX6_longer_21 ?_
    refine lv_ior hx hb dX6_longer_22 ?_
    have hP9 := hP.sub (ws' := []) [] rfl
    have hD9 := hD.sub (ws' := []) [] (by decide) rfl
    exact W.iret (v := (8 ||| ((((nI tr) * 2) + (nI br)) &&& 7))) hx hb hr (fun t ht hW => ⟨⟨(8 ||| ((((nI tr) * 2) + (nI br)) &&& 7)), (), rfl, (wx_longer tr htr br hbr), by rw [ht]; exact hP9, va_K.moved hW.alike hK, hD9⟩, hS.F ht⟩) hS.2.2 dX6_longer_23
  · have i_1 : (((nI tr) * 2) + (nI br)).toInt < 16 := Int32.lt_iff_toInt_lt.mp (Int32.not_le.mp c_1)
    refine lv_iload_n hx hb dX6_longer_12 rfl (lv_at hl 0 rfl) ?_
    refine lv_goto (tgt := 23) hx hb dX6_longer_13 (by decide) ?_
    have hP9 := hP.sub (ws' := []) [] rfl
    have hD9 := hD.sub (ws' := []) [] (by decide) rfl
    exact W.iret (v := (((nI tr) * 2) + (nI br))) hx hb hr (fun t ht hW => ⟨⟨(((nI tr) * 2) + (nI br)), (), rfl, ⟨tr * 2 + br, by have h9 := i_1; rw [show (nI tr * 2 + nI br : Int32) = nI (tr * 2 + br) from by rw [show (2 : Int32) = nI 2 from rfl, pk_mul, nI_add], nI_toInt (by omega)] at h9; omega, by rw [show (2 : Int32) = nI 2 from rfl, pk_mul, nI_add]⟩, by rw [ht]; exact hP9, va_K.moved hW.alike hK, hD9⟩, hS.F ht⟩) hS.2.2 dX6_longer_23
