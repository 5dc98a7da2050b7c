theorem dX8_init_0 : decode cX8_init 0 = .ok (.aload_n 0, 1) := by decide +kernel
theorem dX8_init_1 : decode cX8_init 1 = .ok (.invokespecial 3, 3) := by decide +kernel
theorem dX8_init_4 : decode cX8_init 4 = .ok (.aload_n 0, 1) := by decide +kernel
theorem dX8_init_5 : decode cX8_init 5 = .ok (.iconst 4, 1) := by decide +kernel
theorem dX8_init_6 : decode cX8_init 6 = .ok (.bipush 60, 2) := by decide +kernel
theorem dX8_init_8 : decode cX8_init 8 = .ok (.multianewarray 11 2, 4) := by decide +kernel
theorem dX8_init_12 : decode cX8_init 12 = .ok (.putfield 13, 3) := by decide +kernel
theorem dX8_init_15 : decode cX8_init 15 = .ok (.aload_n 0, 1) := by decide +kernel
theorem dX8_init_16 : decode cX8_init 16 = .ok (.iconst 4, 1) := by decide +kernel
theorem dX8_init_17 : decode cX8_init 17 = .ok (.newarray .int, 2) := by decide +kernel
theorem dX8_init_19 : decode cX8_init 19 = .ok (.putfield 16, 3) := by decide +kernel
theorem dX8_init_22 : decode cX8_init 22 = .ok (.aload_n 0, 1) := by decide +kernel
theorem dX8_init_23 : decode cX8_init 23 = .ok (.iconst 4, 1) := by decide +kernel
theorem dX8_init_24 : decode cX8_init 24 = .ok (.newarray .int, 2) := by decide +kernel
theorem dX8_init_26 : decode cX8_init 26 = .ok (.putfield 20, 3) := by decide +kernel
theorem dX8_init_29 : decode cX8_init 29 = .ok (.aload_n 0, 1) := by decide +kernel
theorem dX8_init_30 : decode cX8_init 30 = .ok (.getfield 20, 3) := by decide +kernel
theorem dX8_init_33 : decode cX8_init 33 = .ok (.iconst (-1), 1) := by decide +kernel
theorem dX8_init_34 : decode cX8_init 34 = .ok (.invokestatic 23, 3) := by decide +kernel
theorem dX8_init_37 : decode cX8_init 37 = .ok (.return_, 1) := by decide +kernel
def w_c_X8_init : List Cond := .code yX8_init cX8_init 1 none :: ([.methodLink RX8 3 objectInit, .instanceMethod objectInit, .code objectInit ⟨#[0xb1]⟩ 1 none, .classLink RX8 11 "[[J", .arrayClass .long, .fieldLink RX8 13 "OnePassport$Slots" "numbers" "[[J", .arrayClass .int, .fieldLink RX8 16 "OnePassport$Slots" "width" "[I", .fieldLink RX8 20 "OnePassport$Slots" "size" "[I", .methodLink RX8 23 yJ7_fill_53178, .static yJ7_fill_53178, .initialized RJ7, .code yJ7_fill_53178 cJ7_fill_53178 4 none] ++ wsX80)
theorem i_c_X8_init_X8 : ∀ w ∈ wsX80, w ∈ w_c_X8_init := fun _ h => List.mem_cons_of_mem _ (List.mem_append_right _ h)
set_option maxRecDepth 100000 in
theorem g_c_X8_init_0 : GoodIn w_c_X8_init (va_wsS RX8 23 yJ7_fill_53178 w_c_fillI) := goodIn_of _ (by decide +kernel)
set_option maxHeartbeats 4000000 in
set_option maxRecDepth 100000 in
theorem c_X8_init (l : Launch) (dC : Nat → ClassId) (dI : Nat → Nat → Nat) (cI : ClassId) (cJ : ClassId) (cK : ClassId) (h0 : Nat) (sz : Nat) : Met l yX8_init w_c_X8_init ({ frames := 1, cells := 7, slots := 252, locals := 23 }) (va_Pc [.ref h0] (fun U => U.heap.size = sz ∧ va_P (dC, dI) vwCl [(h0, .inr (8, [.null, .null, .null]))] U.heap ∧ va_K (dC, dI) vwCl [(cI, .int), (cJ, .long), (cK, .array .long)] U ∧ va_D (fun _ => True) [(h0, .inr (8, [.null, .null, .null]))] ∧ va_AOA .long U)) (va_Qv (fun _ : Unit => True) (fun (_ : Unit) (t : State) => ∃ (q_1 : Nat), ∃ (q_2 : Nat), ∃ (q_3 : Nat), ∃ (q_4 : Nat), ∃ (q_5 : Nat), ∃ (q_6 : Nat), ∃ (q_7 : Nat), va_P (dC, dI) vwCl [(h0, .inr (8, [.ref q_1, .ref q_6, .ref q_7])), (q_1, .inl (cK, 4, .inr (.inr (.inr (.inr (fun i => if i = 0 then some q_2 else if i = 1 then some q_3 else if i = 2 then some q_4 else if i = 3 then some q_5 else none)))))), (q_2, .inl (cJ, 60, .inr (.inl (fun _ => 0)))), (q_3, .inl (cJ, 60, .inr (.inl (fun _ => 0)))), (q_4, .inl (cJ, 60, .inr (.inl (fun _ => 0)))), (q_5, .inl (cJ, 60, .inr (.inl (fun _ => 0)))), (q_6, .inl (cI, 4, .inl (fun _ => 0))), (q_7, .inl (cI, 4, .inl (fun _ => (-1))))] t.heap ∧ va_K (dC, dI) vwCl [(cI, .int), (cJ, .long), (cK, .array .long)] t ∧ va_D (va_A [(h0, .inr (8, [.null, .null, .null]))] sz) [(h0, .inr (8, [.ref q_1, .ref q_6, .ref q_7])), (q_1, .inl (cK, 4, .inr (.inr (.inr (.inr (fun i => if i = 0 then some q_2 else if i = 1 then some q_3 else if i = 2 then some q_4 else if i = 3 then some q_5 else none)))))), (q_2, .inl (cJ, 60, .inr (.inl (fun _ => 0)))), (q_3, .inl (cJ, 60, .inr (.inl (fun _ => 0)))), (q_4, .inl (cJ, 60, .inr (.inl (fun _ => 0)))), (q_5, .inl (cJ, 60, .inr (.inl (fun _ => 0)))), (q_6, .inl (cI, 4, .inl (fun _ => 0))), (q_7, .inl (cI, 4, .inl (fun _ => (-1))))]) (va_A [(h0, .inr (8, [.null, .null, .null]))] sz)) 7 252 (va_A [(h0, .inr (8, [.null, .null, .null]))] sz) := by sorry
