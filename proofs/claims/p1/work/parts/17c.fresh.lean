theorem dX6_learn_0 : decode cX6_learn 0 = .ok (.aload_n 0, 1) := by decide +kernel
theorem dX6_learn_1 : decode cX6_learn 1 = .ok (.aload_n 1, 1) := by decide +kernel
theorem dX6_learn_2 : decode cX6_learn 2 = .ok (.invokevirtual 34, 3) := by decide +kernel
theorem dX6_learn_5 : decode cX6_learn 5 = .ok (.putfield 40, 3) := by decide +kernel
theorem dX6_learn_8 : decode cX6_learn 8 = .ok (.aload_n 0, 1) := by decide +kernel
theorem dX6_learn_9 : decode cX6_learn 9 = .ok (.aload_n 1, 1) := by decide +kernel
theorem dX6_learn_10 : decode cX6_learn 10 = .ok (.invokevirtual 43, 3) := by decide +kernel
theorem dX6_learn_13 : decode cX6_learn 13 = .ok (.putfield 46, 3) := by decide +kernel
theorem dX6_learn_16 : decode cX6_learn 16 = .ok (.aload_n 0, 1) := by decide +kernel
theorem dX6_learn_17 : decode cX6_learn 17 = .ok (.aload_n 1, 1) := by decide +kernel
theorem dX6_learn_18 : decode cX6_learn 18 = .ok (.getfield 48, 3) := by decide +kernel
theorem dX6_learn_21 : decode cX6_learn 21 = .ok (.putfield 51, 3) := by decide +kernel
theorem dX6_learn_24 : decode cX6_learn 24 = .ok (.aload_n 0, 1) := by decide +kernel
theorem dX6_learn_25 : decode cX6_learn 25 = .ok (.aload_n 1, 1) := by decide +kernel
theorem dX6_learn_26 : decode cX6_learn 26 = .ok (.getfield 52, 3) := by decide +kernel
theorem dX6_learn_29 : decode cX6_learn 29 = .ok (.putfield 55, 3) := by decide +kernel
theorem dX6_learn_32 : decode cX6_learn 32 = .ok (.aload_n 0, 1) := by decide +kernel
theorem dX6_learn_33 : decode cX6_learn 33 = .ok (.aload_n 1, 1) := by decide +kernel
theorem dX6_learn_34 : decode cX6_learn 34 = .ok (.getfield 56, 3) := by decide +kernel
theorem dX6_learn_37 : decode cX6_learn 37 = .ok (.iconst 1, 1) := by decide +kernel
theorem dX6_learn_38 : decode cX6_learn 38 = .ok (.if_icmp .ne 7, 3) := by decide +kernel
theorem dX6_learn_45 : decode cX6_learn 45 = .ok (.iconst 0, 1) := by decide +kernel
theorem dX6_learn_46 : decode cX6_learn 46 = .ok (.putfield 59, 3) := by decide +kernel
theorem dX6_learn_49 : decode cX6_learn 49 = .ok (.aload_n 0, 1) := by decide +kernel
theorem dX6_learn_50 : decode cX6_learn 50 = .ok (.getfield 18, 3) := by decide +kernel
theorem dX6_learn_53 : decode cX6_learn 53 = .ok (.iconst 0, 1) := by decide +kernel
theorem dX6_learn_54 : decode cX6_learn 54 = .ok (.invokestatic 62, 3) := by decide +kernel
theorem dX6_learn_57 : decode cX6_learn 57 = .ok (.aload_n 0, 1) := by decide +kernel
theorem dX6_learn_58 : decode cX6_learn 58 = .ok (.getfield 21, 3) := by decide +kernel
theorem dX6_learn_61 : decode cX6_learn 61 = .ok (.iconst 0, 1) := by decide +kernel
theorem dX6_learn_62 : decode cX6_learn 62 = .ok (.invokestatic 62, 3) := by decide +kernel
theorem dX6_learn_65 : decode cX6_learn 65 = .ok (.iconst 0, 1) := by decide +kernel
theorem dX6_learn_66 : decode cX6_learn 66 = .ok (.istore_n 3, 1) := by decide +kernel
theorem dX6_learn_67 : decode cX6_learn 67 = .ok (.iconst 0, 1) := by decide +kernel
theorem dX6_learn_68 : decode cX6_learn 68 = .ok (.istore 4, 2) := by decide +kernel
theorem dX6_learn_70 : decode cX6_learn 70 = .ok (.iload 4, 2) := by decide +kernel
theorem dX6_learn_72 : decode cX6_learn 72 = .ok (.aload_n 0, 1) := by decide +kernel
theorem dX6_learn_73 : decode cX6_learn 73 = .ok (.getfield 55, 3) := by decide +kernel
theorem dX6_learn_76 : decode cX6_learn 76 = .ok (.if_icmp .ge 92, 3) := by decide +kernel
theorem dX6_learn_168 : decode cX6_learn 168 = .ok (.iconst 0, 1) := by decide +kernel
theorem dX6_learn_169 : decode cX6_learn 169 = .ok (.istore 4, 2) := by decide +kernel
theorem dX6_learn_171 : decode cX6_learn 171 = .ok (.iload 4, 2) := by decide +kernel
theorem dX6_learn_173 : decode cX6_learn 173 = .ok (.bipush 16, 2) := by decide +kernel
theorem dX6_learn_175 : decode cX6_learn 175 = .ok (.if_icmp .ge 31, 3) := by decide +kernel
theorem dX6_learn_178 : decode cX6_learn 178 = .ok (.aload_n 0, 1) := by decide +kernel
theorem dX6_learn_179 : decode cX6_learn 179 = .ok (.getfield 24, 3) := by decide +kernel
theorem dX6_learn_182 : decode cX6_learn 182 = .ok (.iload 4, 2) := by decide +kernel
theorem dX6_learn_184 : decode cX6_learn 184 = .ok (.iload_n 2, 1) := by decide +kernel
theorem dX6_learn_185 : decode cX6_learn 185 = .ok (.ifCond .eq 12, 3) := by decide +kernel
theorem dX6_learn_188 : decode cX6_learn 188 = .ok (.iload 4, 2) := by decide +kernel
theorem dX6_learn_190 : decode cX6_learn 190 = .ok (.iload_n 3, 1) := by decide +kernel
theorem dX6_learn_191 : decode cX6_learn 191 = .ok (.invokestatic 83, 3) := by decide +kernel
theorem dX6_learn_194 : decode cX6_learn 194 = .ok (.goto 5, 3) := by decide +kernel
theorem dX6_learn_199 : decode cX6_learn 199 = .ok (.iastore, 1) := by decide +kernel
theorem dX6_learn_200 : decode cX6_learn 200 = .ok (.iinc 4 1, 3) := by decide +kernel
theorem dX6_learn_203 : decode cX6_learn 203 = .ok (.goto (-32), 3) := by decide +kernel
theorem dX6_learn_206 : decode cX6_learn 206 = .ok (.aload_n 0, 1) := by decide +kernel
theorem dX6_learn_207 : decode cX6_learn 207 = .ok (.aload_n 1, 1) := by decide +kernel
theorem dX6_learn_208 : decode cX6_learn 208 = .ok (.invokevirtual 86, 3) := by decide +kernel
theorem dX6_learn_211 : decode cX6_learn 211 = .ok (.return_, 1) := by decide +kernel
def w_c_X6_learn_0 : List Cond := .code yX6_learn cX6_learn 6 none :: ([.methodLink RX6 34 yX0_everyone, .instanceMethod yX0_everyone, .selects RX0 yX0_everyone yX0_everyone, .initialized RX0, .code yX0_everyone cX0_everyone 1 (some .int), .fieldLink RX0 43 "OnePassport$Family" "persons" "I", .fieldLink RX6 40 "OnePassport$Rules" "everyone" "I", .methodLink RX6 43 yX0_children, .instanceMethod yX0_children, .selects RX0 yX0_children yX0_children, .code yX0_children cX0_children 1 (some .int), .fieldLink RX0 18 "OnePassport$Family" "child" "[I", .methodLink RX0 85 yX0_bitsOf, .instanceMethod yX0_bitsOf, .selects RX0 yX0_bitsOf yX0_bitsOf, .code yX0_bitsOf cX0_bitsOf 4 (some .int), .fieldLink RX6 46 "OnePassport$Rules" "children" "I", .fieldLink RX6 48 "OnePassport$Family" "persons" "I", .fieldLink RX6 51 "OnePassport$Rules" "persons" "I", .fieldLink RX6 52 "OnePassport$Family" "posts" "I", .fieldLink RX6 55 "OnePassport$Rules" "posts" "I", .fieldLink RX6 56 "OnePassport$Family" "compare" "I", .fieldLink RX6 59 "OnePassport$Rules" "compare" "Z", .fieldLink RX6 18 "OnePassport$Rules" "behind" "[I", .methodLink RX6 62 yJ7_fill_53178, .static yJ7_fill_53178, .initialized RJ7, .code yJ7_fill_53178 cJ7_fill_53178 4 none, .fieldLink RX6 21 "OnePassport$Rules" "kept" "[I", .methodLink RX6 86 yX6_learnStamps, .instanceMethod yX6_learnStamps, .selects RX6 yX6_learnStamps yX6_learnStamps, .initialized RX6, .code yX6_learnStamps cX6_learnStamps 6 none, .fieldLink RX6 27 "OnePassport$Rules" "nextTrails" "[I", .fieldLink RX6 24 "OnePassport$Rules" "trails" "[I", .methodLink RX6 90 yX6_longer, .static yX6_longer, .code yX6_longer cX6_longer 3 (some .int), .methodLink RX6 83 yX6_mergedTrail, .static yX6_mergedTrail, .code yX6_mergedTrail cX6_mergedTrail 5 (some .int)] ++ wsX00 ++ wsX60)
theorem i_c_X6_learn_0_X0 : ∀ w ∈ wsX00, w ∈ w_c_X6_learn_0 := fun _ h => List.mem_cons_of_mem _ (List.mem_append_left _ (List.mem_append_right _ h))
theorem i_c_X6_learn_0_X6 : ∀ w ∈ wsX60, w ∈ w_c_X6_learn_0 := fun _ h => List.mem_cons_of_mem _ (List.mem_append_right _ h)
set_option maxRecDepth 100000 in
theorem g_c_X6_learn_0_0 : GoodIn w_c_X6_learn_0 (wsV RX6 34 RX0 yX0_everyone w_c_X0_everyone_0) := goodIn_of _ (by decide +kernel)
set_option maxRecDepth 100000 in
theorem g_c_X6_learn_0_1 : GoodIn w_c_X6_learn_0 (wsV RX6 43 RX0 yX0_children w_c_X0_children_0) := goodIn_of _ (by decide +kernel)
set_option maxRecDepth 100000 in
theorem g_c_X6_learn_0_2 : GoodIn w_c_X6_learn_0 (va_wsS RX6 62 yJ7_fill_53178 w_c_fillI) := goodIn_of _ (by decide +kernel)
set_option maxRecDepth 100000 in
theorem g_c_X6_learn_0_3 : GoodIn w_c_X6_learn_0 (wsV RX6 86 RX6 yX6_learnStamps w_c_X6_learnStamps_0) := goodIn_of _ (by decide +kernel)
set_option maxRecDepth 100000 in
theorem g_c_X6_learn_0_4 : GoodIn w_c_X6_learn_0 (va_wsS RX6 83 yX6_mergedTrail w_c_X6_mergedTrail_0) := goodIn_of _ (by decide +kernel)
set_option maxHeartbeats 1000000 in
set_option maxRecDepth 100000 in
theorem c_X6_learn_0 (l : Launch) (dC : Nat → ClassId) (dI : Nat → Nat → Nat) (cI : ClassId) (h0 : Nat) (h1 : Nat) (b0 : Nat) (b1 : Nat) (b2 : Nat) (b3 : Nat) (b4 : Nat) (b5 : Nat) (b6 : Nat) (f5 : Nat) (f6 : Nat) (f7 : Nat) (f8 : Nat) (f9 : Nat) (f10 : Nat) (f11 : Nat) (ff4 : Nat → Int32) (ff5 : Nat → Int32) (sz : Nat) : Met l yX6_learn w_c_X6_learn_0 ({ frames := 2, cells := 0, slots := 0, locals := 47 }) (va_Pc [.ref h0, .ref h1, .int 1] (fun U => U.heap.size = sz ∧ va_P (dC, dI) vwCl [(h0, .inr (6, [.ref b0, .ref b1, .ref b2, .ref b3, .ref b4, .ref b5, .ref b6, .int 0, .int 0, .int 0, .int 0, .int 0])), (h1, .inr (0, [.int 0, .int 0, .int 0, .int 0, .int 0, .ref f5, .ref f6, .ref f7, .ref f8, .ref f9, .ref f10, .ref f11])), (b2, .inl (cI, 16, .inl (fun _ => 0))), (b3, .inl (cI, 16, .inl (fun _ => 0))), (b4, .inl (cI, 16, .inl (ff4))), (b5, .inl (cI, 32, .inl (ff5)))] U.heap ∧ va_K (dC, dI) vwCl [(cI, .int)] U ∧ va_D (fun _ => True) [(h0, .inr (6, [.ref b0, .ref b1, .ref b2, .ref b3, .ref b4, .ref b5, .ref b6, .int 0, .int 0, .int 0, .int 0, .int 0])), (h1, .inr (0, [.int 0, .int 0, .int 0, .int 0, .int 0, .ref f5, .ref f6, .ref f7, .ref f8, .ref f9, .ref f10, .ref f11])), (b2, .inl (cI, 16, .inl (fun _ => 0))), (b3, .inl (cI, 16, .inl (fun _ => 0))), (b4, .inl (cI, 16, .inl (ff4))), (b5, .inl (cI, 32, .inl (ff5)))])) (va_Qv (fun _ : Unit => True) (fun (_ : Unit) (t : State) => ∃ (g4 : Nat → Int32), ∃ (g5 : Nat → Int32), va_P (dC, dI) vwCl [(h0, .inr (6, [.ref b0, .ref b1, .ref b2, .ref b3, .ref b4, .ref b5, .ref b6, .int 0, .int 0, .int 0, .int 0, .int 0])), (h1, .inr (0, [.int 0, .int 0, .int 0, .int 0, .int 0, .ref f5, .ref f6, .ref f7, .ref f8, .ref f9, .ref f10, .ref f11])), (b2, .inl (cI, 16, .inl (fun _ => 0))), (b3, .inl (cI, 16, .inl (fun _ => 0))), (b4, .inl (cI, 16, .inl (g4))), (b5, .inl (cI, 32, .inl (g5)))] t.heap ∧ va_K (dC, dI) vwCl [(cI, .int)] t ∧ va_D (va_A [(h0, .inr (6, [.ref b0, .ref b1, .ref b2, .ref b3, .ref b4, .ref b5, .ref b6, .int 0, .int 0, .int 0, .int 0, .int 0])), (h1, .inr (0, [.int 0, .int 0, .int 0, .int 0, .int 0, .ref f5, .ref f6, .ref f7, .ref f8, .ref f9, .ref f10, .ref f11])), (b2, .inl (cI, 16, .inl (fun _ => 0))), (b3, .inl (cI, 16, .inl (fun _ => 0))), (b4, .inl (cI, 16, .inl (ff4))), (b5, .inl (cI, 32, .inl (ff5)))] sz) [(h0, .inr (6, [.ref b0, .ref b1, .ref b2, .ref b3, .ref b4, .ref b5, .ref b6, .int 0, .int 0, .int 0, .int 0, .int 0])), (h1, .inr (0, [.int 0, .int 0, .int 0, .int 0, .int 0, .ref f5, .ref f6, .ref f7, .ref f8, .ref f9, .ref f10, .ref f11])), (b2, .inl (cI, 16, .inl (fun _ => 0))), (b3, .inl (cI, 16, .inl (fun _ => 0))), (b4, .inl (cI, 16, .inl (g4))), (b5, .inl (cI, 32, .inl (g5)))]) (va_A [(h0, .inr (6, [.ref b0, .ref b1, .ref b2, .ref b3, .ref b4, .ref b5, .ref b6, .int 0, .int 0, .int 0, .int 0, .int 0])), (h1, .inr (0, [.int 0, .int 0, .int 0, .int 0, .int 0, .ref f5, .ref f6, .ref f7, .ref f8, .ref f9, .ref f10, .ref f11])), (b2, .inl (cI, 16, .inl (fun _ => 0))), (b3, .inl (cI, 16, .inl (fun _ => 0))), (b4, .inl (cI, 16, .inl (ff4))), (b5, .inl (cI, 32, .inl (ff5)))] sz)) 0 0 (va_A [(h0, .inr (6, [.ref b0, .ref b1, .ref b2, .ref b3, .ref b4, .ref b5, .ref b6, .int 0, .int 0, .int 0, .int 0, .int 0])), (h1, .inr (0, [.int 0, .int 0, .int 0, .int 0, .int 0, .ref f5, .ref f6, .ref f7, .ref f8, .ref f9, .ref f10, .ref f11])), (b2, .inl (cI, 16, .inl (fun _ => 0))), (b3, .inl (cI, 16, .inl (fun _ => 0))), (b4, .inl (cI, 16, .inl (ff4))), (b5, .inl (cI, 32, .inl (ff5)))] sz) := by
  refine Met.ofW (cc := cX6_learn) (maxL := 6) (ret := none) (by decide) rfl ?_
  intro p e s m args below meth c s₁ B hml hv
  obtain ⟨rfl, hsz, hP, hK, hD0⟩ := hv
  have hx := B.exec
  have hb := B.bytes
  have hr := B.returns
  have hts := atoms_spec (ws := w_c_X6_learn_0) B.pre
  have hown : s.vm.findClass RX6 = some m.cls := findClass_of_methodNamed B.named
  have hlocks := B.notSynchronized
  subst hsz
  have hD := hD0.self (sz := s.heap.size)
  generalize hAe : va_A [(h0, .inr (6, [.ref b0, .ref b1, .ref b2, .ref b3, .ref b4, .ref b5, .ref b6, .int 0, .int 0, .int 0, .int 0, .int 0])), (h1, .inr (0, [.int 0, .int 0, .int 0, .int 0, .int 0, .ref f5, .ref f6, .ref f7, .ref f8, .ref f9, .ref f10, .ref f11])), (b2, .inl (cI, 16, .inl (fun _ => 0))), (b3, .inl (cI, 16, .inl (fun _ => 0))), (b4, .inl (cI, 16, .inl (ff4))), (b5, .inl (cI, 32, .inl (ff5)))] s.heap.size = A at hD ⊢
  have hA : ∀ q : Nat, s.heap.size ≤ q → A q := fun q h => by rw [← hAe]; exact Or.inr h
  have hS : va_S A s.heap s.heap [] := va_S.rf
  have hP : va_P (dC, dI) vwCl [(h0, .inr (6, [.ref b0, .ref b1, .ref b2, .ref b3, .ref b4, .ref b5, .ref b6, .int 0, .int 0, .int 0, .int 0, .int 0])), (h1, .inr (0, [.int 0, .int 0, .int 0, .int 0, .int 0, .ref f5, .ref f6, .ref f7, .ref f8, .ref f9, .ref f10, .ref f11])), (b2, .inl (cI, 16, .inl (fun _ => 0))), (b3, .inl (cI, 16, .inl (fun _ => 0))), (b4, .inl (cI, 16, .inl (ff4))), (b5, .inl (cI, 32, .inl (ff5)))] s.heap := hP
  have hl := lv_entry ([.ref h0, .ref h1, .int 1]) (n := 6) (Nat.le_of_ble_eq_true rfl)
  rw [lg_entry_eq]
  generalize (lg_sl ([.ref h0, .ref h1, .int 1]) ++ List.replicate (6 - (lg_sl ([.ref h0, .ref h1, .int 1])).length) Slot.unset).toArray = ls at hl ⊢
  have hl : lv_has ls 6 [(0, .ref h0), (1, .ref h1), (2, .int 1)] := hl
  refine lv_aload_n hx hb dX6_learn_0 rfl (lv_at hl 0 rfl) ?_
  refine lv_aload_n hx hb dX6_learn_1 rfl (lv_at hl 1 rfl) ?_
  have hPc := hP.sub (ws' := [(h1, .inr (0, [.int 0, .int 0, .int 0, .int 0, .int 0, .ref f5, .ref f6, .ref f7, .ref f8, .ref f9, .ref f10, .ref f11]))]) [1] rfl
  have hDc := hD.sub (ws' := [(h1, .inr (0, [.int 0, .int 0, .int 0, .int 0, .int 0, .ref f5, .ref f6, .ref f7, .ref f8, .ref f9, .ref f10, .ref f11]))]) [1] (by decide) rfl
  have hKc := hK.sub (tys' := []) [] rfl
  have hFc := va_free (wc := [(h1, .inr (0, [.int 0, .int 0, .int 0, .int 0, .int 0, .ref f5, .ref f6, .ref f7, .ref f8, .ref f9, .ref f10, .ref f11]))]) hD hS hA [1] rfl
  refine va_calli (va_runV (As := []) (rest := [.ref h0]) ⟨hx, hb, hml, hown, hts⟩ (c_X0_everyone_0 l dC dI h1 f5 f6 f7 f8 f9 f10 f11 s.heap.size) (cwV 0 hts g_c_X6_learn_0_0 rfl rfl rfl (by decide +kernel) ⟨Nat.le_of_ble_eq_true rfl, Nat.le_of_ble_eq_true rfl⟩) ⟨fun a U g mk q => by obtain ⟨q0, q1, qP, qK, qD⟩ := q; exact ⟨q0, q1, qP, va_K.moved (u := U) (U := U.calling g mk a) (Vm.Alike.refl U.vm) qK, qD⟩, va_recv hKc hPc (ci := 0) (q0 := 0) rfl rfl, fun U hU hW => ⟨rfl, by rw [hU], by rw [hU]; exact hPc, va_K.moved hW.alike hKc, hDc.weaken (fun _ _ _ _ => trivial)⟩⟩ rfl rfl hl.1 rfl (lv_room (Nat.le_of_ble_eq_true rfl)) dX6_learn_2 ⟨Nat.le_of_ble_eq_true rfl, Nat.le_of_ble_eq_true rfl⟩) hS (fun q _ h => hFc q h) hFc (fun r_1 u t H1 locs ht hvm hw hB hz1 hk1 hS => ?_)
  obtain ⟨hP1, hK1, hD1⟩ := hB
  rw [ht] at hP1
  try dsimp only at hw
  obtain ⟨hP, hD⟩ := va_join (wr := [(h0, .inr (6, [.ref b0, .ref b1, .ref b2, .ref b3, .ref b4, .ref b5, .ref b6, .int 0, .int 0, .int 0, .int 0, .int 0])), (b2, .inl (cI, 16, .inl (fun _ => 0))), (b3, .inl (cI, 16, .inl (fun _ => 0))), (b4, .inl (cI, 16, .inl (ff4))), (b5, .inl (cI, 32, .inl (ff5)))]) (w1 := [(h1, .inr (0, [.int 0, .int 0, .int 0, .int 0, .int 0, .ref f5, .ref f6, .ref f7, .ref f8, .ref f9, .ref f10, .ref f11]))]) hP hD [1] [0, 2, 3, 4, 5] rfl rfl (by decide) (by decide) hk1 hFc hP1 hD1
  clear hPc hDc hKc hFc hk1 hP1 hK1 hD1
  generalize H1 = H at hP hS ⊢
  have hP : va_P (dC, dI) vwCl [(h0, .inr (6, [.ref b0, .ref b1, .ref b2, .ref b3, .ref b4, .ref b5, .ref b6, .int 0, .int 0, .int 0, .int 0, .int 0])), (b2, .inl (cI, 16, .inl (fun _ => 0))), (b3, .inl (cI, 16, .inl (fun _ => 0))), (b4, .inl (cI, 16, .inl (ff4))), (b5, .inl (cI, 32, .inl (ff5))), (h1, .inr (0, [.int 0, .int 0, .int 0, .int 0, .int 0, .ref f5, .ref f6, .ref f7, .ref f8, .ref f9, .ref f10, .ref f11]))] H := hP
  have hD : va_D A [(h0, .inr (6, [.ref b0, .ref b1, .ref b2, .ref b3, .ref b4, .ref b5, .ref b6, .int 0, .int 0, .int 0, .int 0, .int 0])), (b2, .inl (cI, 16, .inl (fun _ => 0))), (b3, .inl (cI, 16, .inl (fun _ => 0))), (b4, .inl (cI, 16, .inl (ff4))), (b5, .inl (cI, 32, .inl (ff5))), (h1, .inr (0, [.int 0, .int 0, .int 0, .int 0, .int 0, .ref f5, .ref f6, .ref f7, .ref f8, .ref f9, .ref f10, .ref f11]))] := hD
  have er_1 : r_1 = 0 := hw
  refine wx_ti (y := 0) er_1 ?_
  refine va_put (D := (dC, dI)) (ci := 6) (v := .int 0) (ty := .int) (C := RX6) (T := TX6) (N := 12) hx hb hts i_c_X6_learn_0_X6 tyX6 tyX6_ok nmX6 hown hK hP hD hS 0 rfl rfl 7 (by decide) (hts (.fieldLink RX6 40 "OnePassport$Rules" "everyone" "I") (List.mem_of_getElem? (i := 7) rfl)) (fun _ h9 => h9) rfl (by decide +kernel) rfl rfl (Nat.le_of_ble_eq_true rfl) dX6_learn_5 (fun H locs hP hD hS => ?_)
  have hP : va_P (dC, dI) vwCl [(h0, .inr (6, [.ref b0, .ref b1, .ref b2, .ref b3, .ref b4, .ref b5, .ref b6, .int 0, .int 0, .int 0, .int 0, .int 0])), (b2, .inl (cI, 16, .inl (fun _ => 0))), (b3, .inl (cI, 16, .inl (fun _ => 0))), (b4, .inl (cI, 16, .inl (ff4))), (b5, .inl (cI, 32, .inl (ff5))), (h1, .inr (0, [.int 0, .int 0, .int 0, .int 0, .int 0, .ref f5, .ref f6, .ref f7, .ref f8, .ref f9, .ref f10, .ref f11]))] H := hP
  have hD : va_D A [(h0, .inr (6, [.ref b0, .ref b1, .ref b2, .ref b3, .ref b4, .ref b5, .ref b6, .int 0, .int 0, .int 0, .int 0, .int 0])), (b2, .inl (cI, 16, .inl (fun _ => 0))), (b3, .inl (cI, 16, .inl (fun _ => 0))), (b4, .inl (cI, 16, .inl (ff4))), (b5, .inl (cI, 32, .inl (ff5))), (h1, .inr (0, [.int 0, .int 0, .int 0, .int 0, .int 0, .ref f5, .ref f6, .ref f7, .ref f8, .ref f9, .ref f10, .ref f11]))] := hD
  refine lv_aload_n hx hb dX6_learn_8 rfl (lv_at hl 0 rfl) ?_
  refine lv_aload_n hx hb dX6_learn_9 rfl (lv_at hl 1 rfl) ?_
  have hPc := hP.sub (ws' := [(h1, .inr (0, [.int 0, .int 0, .int 0, .int 0, .int 0, .ref f5, .ref f6, .ref f7, .ref f8, .ref f9, .ref f10, .ref f11]))]) [5] rfl
  have hDc := hD.sub (ws' := [(h1, .inr (0, [.int 0, .int 0, .int 0, .int 0, .int 0, .ref f5, .ref f6, .ref f7, .ref f8, .ref f9, .ref f10, .ref f11]))]) [5] (by decide) rfl
  have hKc := hK.sub (tys' := []) [] rfl
  have hFc := va_free (wc := [(h1, .inr (0, [.int 0, .int 0, .int 0, .int 0, .int 0, .ref f5, .ref f6, .ref f7, .ref f8, .ref f9, .ref f10, .ref f11]))]) hD hS hA [5] rfl
  refine va_calli (va_runV (As := []) (rest := [.ref h0]) ⟨hx, hb, hml, hown, hts⟩ (c_X0_children_0 l dC dI h1 f5 f6 f7 f8 f9 f10 f11 H.size) (cwV 0 hts g_c_X6_learn_0_1 rfl rfl rfl (by decide +kernel) ⟨Nat.le_of_ble_eq_true rfl, Nat.le_of_ble_eq_true rfl⟩) ⟨fun a U g mk q => by obtain ⟨q0, q1, qP, qK, qD⟩ := q; exact ⟨q0, q1, qP, va_K.moved (u := U) (U := U.calling g mk a) (Vm.Alike.refl U.vm) qK, qD⟩, va_recv hKc hPc (ci := 0) (q0 := 0) rfl rfl, fun U hU hW => ⟨rfl, by rw [hU], by rw [hU]; exact hPc, va_K.moved hW.alike hKc, hDc.weaken (fun _ _ _ _ => trivial)⟩⟩ rfl rfl hl.1 rfl (lv_room (Nat.le_of_ble_eq_true rfl)) dX6_learn_10 ⟨Nat.le_of_ble_eq_true rfl, Nat.le_of_ble_eq_true rfl⟩) hS (fun q _ h => hFc q h) hFc (fun r_2 u t H1 locs ht hvm hw hB hz1 hk1 hS => ?_)
  obtain ⟨hP1, hK1, hD1⟩ := hB
  rw [ht] at hP1
  try dsimp only at hw
  obtain ⟨hP, hD⟩ := va_join (wr := [(h0, .inr (6, [.ref b0, .ref b1, .ref b2, .ref b3, .ref b4, .ref b5, .ref b6, .int 0, .int 0, .int 0, .int 0, .int 0])), (b2, .inl (cI, 16, .inl (fun _ => 0))), (b3, .inl (cI, 16, .inl (fun _ => 0))), (b4, .inl (cI, 16, .inl (ff4))), (b5, .inl (cI, 32, .inl (ff5)))]) (w1 := [(h1, .inr (0, [.int 0, .int 0, .int 0, .int 0, .int 0, .ref f5, .ref f6, .ref f7, .ref f8, .ref f9, .ref f10, .ref f11]))]) hP hD [5] [0, 1, 2, 3, 4] rfl rfl (by decide) (by decide) hk1 hFc hP1 hD1
  clear hPc hDc hKc hFc hk1 hP1 hK1 hD1
  generalize H1 = H at hP hS ⊢
  have hP : va_P (dC, dI) vwCl [(h0, .inr (6, [.ref b0, .ref b1, .ref b2, .ref b3, .ref b4, .ref b5, .ref b6, .int 0, .int 0, .int 0, .int 0, .int 0])), (b2, .inl (cI, 16, .inl (fun _ => 0))), (b3, .inl (cI, 16, .inl (fun _ => 0))), (b4, .inl (cI, 16, .inl (ff4))), (b5, .inl (cI, 32, .inl (ff5))), (h1, .inr (0, [.int 0, .int 0, .int 0, .int 0, .int 0, .ref f5, .ref f6, .ref f7, .ref f8, .ref f9, .ref f10, .ref f11]))] H := hP
  have hD : va_D A [(h0, .inr (6, [.ref b0, .ref b1, .ref b2, .ref b3, .ref b4, .ref b5, .ref b6, .int 0, .int 0, .int 0, .int 0, .int 0])), (b2, .inl (cI, 16, .inl (fun _ => 0))), (b3, .inl (cI, 16, .inl (fun _ => 0))), (b4, .inl (cI, 16, .inl (ff4))), (b5, .inl (cI, 32, .inl (ff5))), (h1, .inr (0, [.int 0, .int 0, .int 0, .int 0, .int 0, .ref f5, .ref f6, .ref f7, .ref f8, .ref f9, .ref f10, .ref f11]))] := hD
  have er_2 : r_2 = 0 := hw
  refine wx_ti (y := 0) er_2 ?_
  refine va_put (D := (dC, dI)) (ci := 6) (v := .int 0) (ty := .int) (C := RX6) (T := TX6) (N := 12) hx hb hts i_c_X6_learn_0_X6 tyX6 tyX6_ok nmX6 hown hK hP hD hS 0 rfl rfl 8 (by decide) (hts (.fieldLink RX6 46 "OnePassport$Rules" "children" "I") (List.mem_of_getElem? (i := 17) rfl)) (fun _ h9 => h9) rfl (by decide +kernel) rfl rfl (Nat.le_of_ble_eq_true rfl) dX6_learn_13 (fun H locs hP hD hS => ?_)
  have hP : va_P (dC, dI) vwCl [(h0, .inr (6, [.ref b0, .ref b1, .ref b2, .ref b3, .ref b4, .ref b5, .ref b6, .int 0, .int 0, .int 0, .int 0, .int 0])), (b2, .inl (cI, 16, .inl (fun _ => 0))), (b3, .inl (cI, 16, .inl (fun _ => 0))), (b4, .inl (cI, 16, .inl (ff4))), (b5, .inl (cI, 32, .inl (ff5))), (h1, .inr (0, [.int 0, .int 0, .int 0, .int 0, .int 0, .ref f5, .ref f6, .ref f7, .ref f8, .ref f9, .ref f10, .ref f11]))] H := hP
  have hD : va_D A [(h0, .inr (6, [.ref b0, .ref b1, .ref b2, .ref b3, .ref b4, .ref b5, .ref b6, .int 0, .int 0, .int 0, .int 0, .int 0])), (b2, .inl (cI, 16, .inl (fun _ => 0))), (b3, .inl (cI, 16, .inl (fun _ => 0))), (b4, .inl (cI, 16, .inl (ff4))), (b5, .inl (cI, 32, .inl (ff5))), (h1, .inr (0, [.int 0, .int 0, .int 0, .int 0, .int 0, .ref f5, .ref f6, .ref f7, .ref f8, .ref f9, .ref f10, .ref f11]))] := hD
  refine lv_aload_n hx hb dX6_learn_16 rfl (lv_at hl 0 rfl) ?_
  refine lv_aload_n hx hb dX6_learn_17 rfl (lv_at hl 1 rfl) ?_
  refine va_get (D := (dC, dI)) (ci := 0) (v := .int 0) (C := RX0) (T := TX0) (N := 12) hx hb hts i_c_X6_learn_0_X0 hown hK hP 5 rfl rfl 3 (by decide) (hts (.fieldLink RX6 48 "OnePassport$Family" "persons" "I") (List.mem_of_getElem? (i := 18) rfl)) (fun _ h9 => h9) rfl dX6_learn_18 ?_
  refine va_put (D := (dC, dI)) (ci := 6) (v := .int 0) (ty := .int) (C := RX6) (T := TX6) (N := 12) hx hb hts i_c_X6_learn_0_X6 tyX6 tyX6_ok nmX6 hown hK hP hD hS 0 rfl rfl 9 (by decide) (hts (.fieldLink RX6 51 "OnePassport$Rules" "persons" "I") (List.mem_of_getElem? (i := 19) rfl)) (fun _ h9 => h9) rfl (by decide +kernel) rfl rfl (Nat.le_of_ble_eq_true rfl) dX6_learn_21 (fun H locs hP hD hS => ?_)
  have hP : va_P (dC, dI) vwCl [(h0, .inr (6, [.ref b0, .ref b1, .ref b2, .ref b3, .ref b4, .ref b5, .ref b6, .int 0, .int 0, .int 0, .int 0, .int 0])), (b2, .inl (cI, 16, .inl (fun _ => 0))), (b3, .inl (cI, 16, .inl (fun _ => 0))), (b4, .inl (cI, 16, .inl (ff4))), (b5, .inl (cI, 32, .inl (ff5))), (h1, .inr (0, [.int 0, .int 0, .int 0, .int 0, .int 0, .ref f5, .ref f6, .ref f7, .ref f8, .ref f9, .ref f10, .ref f11]))] H := hP
  have hD : va_D A [(h0, .inr (6, [.ref b0, .ref b1, .ref b2, .ref b3, .ref b4, .ref b5, .ref b6, .int 0, .int 0, .int 0, .int 0, .int 0])), (b2, .inl (cI, 16, .inl (fun _ => 0))), (b3, .inl (cI, 16, .inl (fun _ => 0))), (b4, .inl (cI, 16, .inl (ff4))), (b5, .inl (cI, 32, .inl (ff5))), (h1, .inr (0, [.int 0, .int 0, .int 0, .int 0, .int 0, .ref f5, .ref f6, .ref f7, .ref f8, .ref f9, .ref f10, .ref f11]))] := hD
  refine lv_aload_n hx hb dX6_learn_24 rfl (lv_at hl 0 rfl) ?_
  refine lv_aload_n hx hb dX6_learn_25 rfl (lv_at hl 1 rfl) ?_
  refine va_get (D := (dC, dI)) (ci := 0) (v := .int 0) (C := RX0) (T := TX0) (N := 12) hx hb hts i_c_X6_learn_0_X0 hown hK hP 5 rfl rfl 4 (by decide) (hts (.fieldLink RX6 52 "OnePassport$Family" "posts" "I") (List.mem_of_getElem? (i := 20) rfl)) (fun _ h9 => h9) rfl dX6_learn_26 ?_
  refine va_put (D := (dC, dI)) (ci := 6) (v := .int 0) (ty := .int) (C := RX6) (T := TX6) (N := 12) hx hb hts i_c_X6_learn_0_X6 tyX6 tyX6_ok nmX6 hown hK hP hD hS 0 rfl rfl 10 (by decide) (hts (.fieldLink RX6 55 "OnePassport$Rules" "posts" "I") (List.mem_of_getElem? (i := 21) rfl)) (fun _ h9 => h9) rfl (by decide +kernel) rfl rfl (Nat.le_of_ble_eq_true rfl) dX6_learn_29 (fun H locs hP hD hS => ?_)
  have hP : va_P (dC, dI) vwCl [(h0, .inr (6, [.ref b0, .ref b1, .ref b2, .ref b3, .ref b4, .ref b5, .ref b6, .int 0, .int 0, .int 0, .int 0, .int 0])), (b2, .inl (cI, 16, .inl (fun _ => 0))), (b3, .inl (cI, 16, .inl (fun _ => 0))), (b4, .inl (cI, 16, .inl (ff4))), (b5, .inl (cI, 32, .inl (ff5))), (h1, .inr (0, [.int 0, .int 0, .int 0, .int 0, .int 0, .ref f5, .ref f6, .ref f7, .ref f8, .ref f9, .ref f10, .ref f11]))] H := hP
  have hD : va_D A [(h0, .inr (6, [.ref b0, .ref b1, .ref b2, .ref b3, .ref b4, .ref b5, .ref b6, .int 0, .int 0, .int 0, .int 0, .int 0])), (b2, .inl (cI, 16, .inl (fun _ => 0))), (b3, .inl (cI, 16, .inl (fun _ => 0))), (b4, .inl (cI, 16, .inl (ff4))), (b5, .inl (cI, 32, .inl (ff5))), (h1, .inr (0, [.int 0, .int 0, .int 0, .int 0, .int 0, .ref f5, .ref f6, .ref f7, .ref f8, .ref f9, .ref f10, .ref f11]))] := hD
  refine lv_aload_n hx hb dX6_learn_32 rfl (lv_at hl 0 rfl) ?_
  refine lv_aload_n hx hb dX6_learn_33 rfl (lv_at hl 1 rfl) ?_
  refine va_get (D := (dC, dI)) (ci := 0) (v := .int 0) (C := RX0) (T := TX0) (N := 12) hx hb hts i_c_X6_learn_0_X0 hown hK hP 5 rfl rfl 2 (by decide) (hts (.fieldLink RX6 56 "OnePassport$Family" "compare" "I") (List.mem_of_getElem? (i := 22) rfl)) (fun _ h9 => h9) rfl dX6_learn_34 ?_
  refine lv_iconst (v := 1) hx hb dX6_learn_37 (by decide) ?_
  refine lv_icmp_ne (tgt := 45) hx hb dX6_learn_38 (by decide) (fun c_3 => ?_) (fun c_3 => absurd c_3 (by decide))
  refine lv_iconst (v := 0) hx hb dX6_learn_45 (by decide) ?_
  refine va_put (D := (dC, dI)) (ci := 6) (v := .int 0) (ty := .boolean) (C := RX6) (T := TX6) (N := 12) hx hb hts i_c_X6_learn_0_X6 tyX6 tyX6_ok nmX6 hown hK hP hD hS 0 rfl rfl 11 (by decide) (hts (.fieldLink RX6 59 "OnePassport$Rules" "compare" "Z") (List.mem_of_getElem? (i := 23) rfl)) (fun _ h9 => h9) rfl (by decide +kernel) rfl rfl (Nat.le_of_ble_eq_true rfl) dX6_learn_46 (fun H locs hP hD hS => ?_)
  have hP : va_P (dC, dI) vwCl [(h0, .inr (6, [.ref b0, .ref b1, .ref b2, .ref b3, .ref b4, .ref b5, .ref b6, .int 0, .int 0, .int 0, .int 0, .int 0])), (b2, .inl (cI, 16, .inl (fun _ => 0))), (b3, .inl (cI, 16, .inl (fun _ => 0))), (b4, .inl (cI, 16, .inl (ff4))), (b5, .inl (cI, 32, .inl (ff5))), (h1, .inr (0, [.int 0, .int 0, .int 0, .int 0, .int 0, .ref f5, .ref f6, .ref f7, .ref f8, .ref f9, .ref f10, .ref f11]))] H := hP
  have hD : va_D A [(h0, .inr (6, [.ref b0, .ref b1, .ref b2, .ref b3, .ref b4, .ref b5, .ref b6, .int 0, .int 0, .int 0, .int 0, .int 0])), (b2, .inl (cI, 16, .inl (fun _ => 0))), (b3, .inl (cI, 16, .inl (fun _ => 0))), (b4, .inl (cI, 16, .inl (ff4))), (b5, .inl (cI, 32, .inl (ff5))), (h1, .inr (0, [.int 0, .int 0, .int 0, .int 0, .int 0, .ref f5, .ref f6, .ref f7, .ref f8, .ref f9, .ref f10, .ref f11]))] := hD
  refine lv_aload_n hx hb dX6_learn_49 rfl (lv_at hl 0 rfl) ?_
  refine va_get (D := (dC, dI)) (ci := 6) (v := .ref b2) (C := RX6) (T := TX6) (N := 12) hx hb hts i_c_X6_learn_0_X6 hown hK hP 0 rfl rfl 2 (by decide) (hts (.fieldLink RX6 18 "OnePassport$Rules" "behind" "[I") (List.mem_of_getElem? (i := 24) rfl)) (fun _ h9 => h9) rfl dX6_learn_50 ?_
  refine lv_iconst (v := 0) hx hb dX6_learn_53 (by decide) ?_
  have hPc := hP.sub (ws' := [(b2, .inl (cI, 16, .inl (fun _ => 0)))]) [1] rfl
  have hDc := hD.sub (ws' := [(b2, .inl (cI, 16, .inl (fun _ => 0)))]) [1] (by decide) rfl
  have hKc := hK.sub (tys' := [(cI, .int)]) [0] rfl
  have hFc := va_free (wc := [(b2, .inl (cI, 16, .inl (fun _ => 0)))]) hD hS hA [1] rfl
  refine va_callv (va_runS (As := [.ref b2, .int 0]) (rest := []) ⟨hx, hb, hml, hown, hts⟩ (c_fillI l dC dI cI b2 16 (fun _ => 0) 0 (by decide) H.size) (va_cwS 2 hts g_c_X6_learn_0_2 rfl rfl rfl (by decide +kernel) ⟨Nat.le_of_ble_eq_true rfl, Nat.le_of_ble_eq_true rfl⟩) ⟨fun a U g mk q => by obtain ⟨q0, q1, qP, qK, qD⟩ := q; exact ⟨q0, q1, qP, va_K.moved (u := U) (U := U.calling g mk a) (Vm.Alike.refl U.vm) qK, qD⟩, fun U hU hW => ⟨rfl, by rw [hU], by rw [hU]; exact hPc, va_K.moved hW.alike hKc, hDc.weaken (fun _ _ _ _ => trivial)⟩⟩ rfl rfl hl.1 rfl (lv_room (Nat.le_of_ble_eq_true rfl)) dX6_learn_54 ⟨Nat.le_of_ble_eq_true rfl, Nat.le_of_ble_eq_true rfl⟩) hS (fun q _ h => hFc q h) hFc (fun u t H1 locs ht hvm hw hB hz1 hk1 hS => ?_)
  obtain ⟨hP1, hK1, hD1⟩ := hB
  rw [ht] at hP1
  try dsimp only at hw
  obtain ⟨hP, hD⟩ := va_join (wr := [(h0, .inr (6, [.ref b0, .ref b1, .ref b2, .ref b3, .ref b4, .ref b5, .ref b6, .int 0, .int 0, .int 0, .int 0, .int 0])), (b3, .inl (cI, 16, .inl (fun _ => 0))), (b4, .inl (cI, 16, .inl (ff4))), (b5, .inl (cI, 32, .inl (ff5))), (h1, .inr (0, [.int 0, .int 0, .int 0, .int 0, .int 0, .ref f5, .ref f6, .ref f7, .ref f8, .ref f9, .ref f10, .ref f11]))]) (w1 := [(b2, .inl (cI, 16, .inl (fun _ => 0)))]) hP hD [1] [0, 2, 3, 4, 5] rfl rfl (by decide) (by decide) hk1 hFc hP1 hD1
  clear hPc hDc hKc hFc hk1 hP1 hK1 hD1
  generalize H1 = H at hP hS ⊢
  have hP : va_P (dC, dI) vwCl [(h0, .inr (6, [.ref b0, .ref b1, .ref b2, .ref b3, .ref b4, .ref b5, .ref b6, .int 0, .int 0, .int 0, .int 0, .int 0])), (b3, .inl (cI, 16, .inl (fun _ => 0))), (b4, .inl (cI, 16, .inl (ff4))), (b5, .inl (cI, 32, .inl (ff5))), (h1, .inr (0, [.int 0, .int 0, .int 0, .int 0, .int 0, .ref f5, .ref f6, .ref f7, .ref f8, .ref f9, .ref f10, .ref f11])), (b2, .inl (cI, 16, .inl (fun _ => 0)))] H := hP
  have hD : va_D A [(h0, .inr (6, [.ref b0, .ref b1, .ref b2, .ref b3, .ref b4, .ref b5, .ref b6, .int 0, .int 0, .int 0, .int 0, .int 0])), (b3, .inl (cI, 16, .inl (fun _ => 0))), (b4, .inl (cI, 16, .inl (ff4))), (b5, .inl (cI, 32, .inl (ff5))), (h1, .inr (0, [.int 0, .int 0, .int 0, .int 0, .int 0, .ref f5, .ref f6, .ref f7, .ref f8, .ref f9, .ref f10, .ref f11])), (b2, .inl (cI, 16, .inl (fun _ => 0)))] := hD
  refine lv_aload_n hx hb dX6_learn_57 rfl (lv_at hl 0 rfl) ?_
  refine va_get (D := (dC, dI)) (ci := 6) (v := .ref b3) (C := RX6) (T := TX6) (N := 12) hx hb hts i_c_X6_learn_0_X6 hown hK hP 0 rfl rfl 3 (by decide) (hts (.fieldLink RX6 21 "OnePassport$Rules" "kept" "[I") (List.mem_of_getElem? (i := 29) rfl)) (fun _ h9 => h9) rfl dX6_learn_58 ?_
  refine lv_iconst (v := 0) hx hb dX6_learn_61 (by decide) ?_
  have hPc := hP.sub (ws' := [(b3, .inl (cI, 16, .inl (fun _ => 0)))]) [1] rfl
  have hDc := hD.sub (ws' := [(b3, .inl (cI, 16, .inl (fun _ => 0)))]) [1] (by decide) rfl
  have hKc := hK.sub (tys' := [(cI, .int)]) [0] rfl
  have hFc := va_free (wc := [(b3, .inl (cI, 16, .inl (fun _ => 0)))]) hD hS hA [1] rfl
  refine va_callv (va_runS (As := [.ref b3, .int 0]) (rest := []) ⟨hx, hb, hml, hown, hts⟩ (c_fillI l dC dI cI b3 16 (fun _ => 0) 0 (by decide) H.size) (va_cwS 2 hts g_c_X6_learn_0_2 rfl rfl rfl (by decide +kernel) ⟨Nat.le_of_ble_eq_true rfl, Nat.le_of_ble_eq_true rfl⟩) ⟨fun a U g mk q => by obtain ⟨q0, q1, qP, qK, qD⟩ := q; exact ⟨q0, q1, qP, va_K.moved (u := U) (U := U.calling g mk a) (Vm.Alike.refl U.vm) qK, qD⟩, fun U hU hW => ⟨rfl, by rw [hU], by rw [hU]; exact hPc, va_K.moved hW.alike hKc, hDc.weaken (fun _ _ _ _ => trivial)⟩⟩ rfl rfl hl.1 rfl (lv_room (Nat.le_of_ble_eq_true rfl)) dX6_learn_62 ⟨Nat.le_of_ble_eq_true rfl, Nat.le_of_ble_eq_true rfl⟩) hS (fun q _ h => hFc q h) hFc (fun u t H1 locs ht hvm hw hB hz1 hk1 hS => ?_)
  obtain ⟨hP1, hK1, hD1⟩ := hB
  rw [ht] at hP1
  try dsimp only at hw
  obtain ⟨hP, hD⟩ := va_join (wr := [(h0, .inr (6, [.ref b0, .ref b1, .ref b2, .ref b3, .ref b4, .ref b5, .ref b6, .int 0, .int 0, .int 0, .int 0, .int 0])), (b4, .inl (cI, 16, .inl (ff4))), (b5, .inl (cI, 32, .inl (ff5))), (h1, .inr (0, [.int 0, .int 0, .int 0, .int 0, .int 0, .ref f5, .ref f6, .ref f7, .ref f8, .ref f9, .ref f10, .ref f11])), (b2, .inl (cI, 16, .inl (fun _ => 0)))]) (w1 := [(b3, .inl (cI, 16, .inl (fun _ => 0)))]) hP hD [1] [0, 2, 3, 4, 5] rfl rfl (by decide) (by decide) hk1 hFc hP1 hD1
  clear hPc hDc hKc hFc hk1 hP1 hK1 hD1
  generalize H1 = H at hP hS ⊢
  have hP : va_P (dC, dI) vwCl [(h0, .inr (6, [.ref b0, .ref b1, .ref b2, .ref b3, .ref b4, .ref b5, .ref b6, .int 0, .int 0, .int 0, .int 0, .int 0])), (b4, .inl (cI, 16, .inl (ff4))), (b5, .inl (cI, 32, .inl (ff5))), (h1, .inr (0, [.int 0, .int 0, .int 0, .int 0, .int 0, .ref f5, .ref f6, .ref f7, .ref f8, .ref f9, .ref f10, .ref f11])), (b2, .inl (cI, 16, .inl (fun _ => 0))), (b3, .inl (cI, 16, .inl (fun _ => 0)))] H := hP
  have hD : va_D A [(h0, .inr (6, [.ref b0, .ref b1, .ref b2, .ref b3, .ref b4, .ref b5, .ref b6, .int 0, .int 0, .int 0, .int 0, .int 0])), (b4, .inl (cI, 16, .inl (ff4))), (b5, .inl (cI, 32, .inl (ff5))), (h1, .inr (0, [.int 0, .int 0, .int 0, .int 0, .int 0, .ref f5, .ref f6, .ref f7, .ref f8, .ref f9, .ref f10, .ref f11])), (b2, .inl (cI, 16, .inl (fun _ => 0))), (b3, .inl (cI, 16, .inl (fun _ => 0)))] := hD
  refine lv_iconst (v := 0) hx hb dX6_learn_65 (by decide) ?_
  refine lv_istore_n (lv' := [(3, .int 0), (0, .ref h0), (1, .ref h1), (2, .int 1)]) hx hb dX6_learn_66 rfl hl (by decide) rfl (fun ls hl => ?_)
  refine lv_iconst (v := 0) hx hb dX6_learn_67 (by decide) ?_
  refine lv_istore (lv' := [(4, .int 0), (3, .int 0), (0, .ref h0), (1, .ref h1), (2, .int 1)]) hx hb dX6_learn_68 hl (by decide) rfl (fun ls hl => ?_)
  refine lv_iload hx hb dX6_learn_70 (lv_at hl 0 rfl) ?_
  refine lv_aload_n hx hb dX6_learn_72 rfl (lv_at hl 2 rfl) ?_
  refine va_get (D := (dC, dI)) (ci := 6) (v := .int 0) (C := RX6) (T := TX6) (N := 12) hx hb hts i_c_X6_learn_0_X6 hown hK hP 0 rfl rfl 10 (by decide) (hts (.fieldLink RX6 55 "OnePassport$Rules" "posts" "I") (List.mem_of_getElem? (i := 21) rfl)) (fun _ h9 => h9) rfl dX6_learn_73 ?_
  refine lv_icmp_ge (tgt := 168) hx hb dX6_learn_76 (by decide) (fun c_6 => ?_) (fun c_6 => absurd (by decide) c_6)
  refine lv_iconst (v := 0) hx hb dX6_learn_168 (by decide) ?_
  refine lv_istore (lv' := [(4, .int 0), (3, .int 0), (0, .ref h0), (1, .ref h1), (2, .int 1)]) hx hb dX6_learn_169 hl (by decide) rfl (fun ls hl => ?_)
  refine wx_loopM (σ := Nat × (Nat → Int32)) (fun x => 16 - (x.1)) (fun x H locs ls => (x.1) ≤ 16 ∧ va_P (dC, dI) vwCl [(h0, .inr (6, [.ref b0, .ref b1, .ref b2, .ref b3, .ref b4, .ref b5, .ref b6, .int 0, .int 0, .int 0, .int 0, .int 0])), (b4, .inl (cI, 16, .inl ((x.2)))), (b5, .inl (cI, 32, .inl (ff5))), (h1, .inr (0, [.int 0, .int 0, .int 0, .int 0, .int 0, .ref f5, .ref f6, .ref f7, .ref f8, .ref f9, .ref f10, .ref f11])), (b2, .inl (cI, 16, .inl (fun _ => 0))), (b3, .inl (cI, 16, .inl (fun _ => 0)))] H ∧ va_D A [(h0, .inr (6, [.ref b0, .ref b1, .ref b2, .ref b3, .ref b4, .ref b5, .ref b6, .int 0, .int 0, .int 0, .int 0, .int 0])), (b4, .inl (cI, 16, .inl ((x.2)))), (b5, .inl (cI, 32, .inl (ff5))), (h1, .inr (0, [.int 0, .int 0, .int 0, .int 0, .int 0, .ref f5, .ref f6, .ref f7, .ref f8, .ref f9, .ref f10, .ref f11])), (b2, .inl (cI, 16, .inl (fun _ => 0))), (b3, .inl (cI, 16, .inl (fun _ => 0)))] ∧ va_S A s.heap H locs ∧ lv_has ls 6 [(0, .ref h0), (1, .ref h1), (2, .int 1), (3, .int 0), (4, .int (nI (x.1)))]) (0, ff4) ⟨Nat.le_of_ble_eq_true rfl, hP, hD, hS, lv_sub hl [2, 3, 4, 1, 0] rfl⟩ (fun x H locs ls hI ih171 => ?_)
  obtain ⟨tr, ft⟩ := x
  dsimp only at hI ih171
  obtain ⟨ht9, hP, hD, hS, hl⟩ := hI
  refine lv_iload hx hb dX6_learn_171 (lv_at hl 4 rfl) ?_
  refine lv_bipush (v := 16) hx hb dX6_learn_173 (by decide) ?_
  refine lv_icmp_ge (tgt := 206) hx hb dX6_learn_175 (by decide) (fun c_7 => ?_) (fun c_7 => ?_)
  · have i_7 : 16 ≤ (nI tr).toInt := Int32.le_iff_toInt_le.mp c_7
    refine lv_aload_n hx hb dX6_learn_206 rfl (lv_at hl 0 rfl) ?_
    refine lv_aload_n hx hb dX6_learn_207 rfl (lv_at hl 1 rfl) ?_
    have hPc := hP.sub (ws' := [(h0, .inr (6, [.ref b0, .ref b1, .ref b2, .ref b3, .ref b4, .ref b5, .ref b6, .int 0, .int 0, .int 0, .int 0, .int 0])), (b4, .inl (cI, 16, .inl (ft))), (b5, .inl (cI, 32, .inl (ff5)))]) [0, 1, 2] rfl
    have hDc := hD.sub (ws' := [(h0, .inr (6, [.ref b0, .ref b1, .ref b2, .ref b3, .ref b4, .ref b5, .ref b6, .int 0, .int 0, .int 0, .int 0, .int 0])), (b4, .inl (cI, 16, .inl (ft))), (b5, .inl (cI, 32, .inl (ff5)))]) [0, 1, 2] (by decide) rfl
    have hKc := hK.sub (tys' := [(cI, .int)]) [0] rfl
    have hFc := va_free (wc := [(h0, .inr (6, [.ref b0, .ref b1, .ref b2, .ref b3, .ref b4, .ref b5, .ref b6, .int 0, .int 0, .int 0, .int 0, .int 0])), (b4, .inl (cI, 16, .inl (ft))), (b5, .inl (cI, 32, .inl (ff5)))]) hD hS hA [0, 1, 2] rfl
    refine va_callv (va_runV (As := [.ref h1]) (rest := []) ⟨hx, hb, hml, hown, hts⟩ (c_X6_learnStamps_0 l dC dI cI h0 h1 b0 b1 b2 b3 b4 b5 b6 ft ff5 H.size) (cwV 1 hts g_c_X6_learn_0_3 rfl rfl rfl (by decide +kernel) ⟨Nat.le_of_ble_eq_true rfl, Nat.le_of_ble_eq_true rfl⟩) ⟨fun a U g mk q => by obtain ⟨q0, q1, qP, qK, qD⟩ := q; exact ⟨q0, q1, qP, va_K.moved (u := U) (U := U.calling g mk a) (Vm.Alike.refl U.vm) qK, qD⟩, va_recv hKc hPc (ci := 6) (q0 := 0) rfl rfl, fun U hU hW => ⟨rfl, by rw [hU], by rw [hU]; exact hPc, va_K.moved hW.alike hKc, hDc.weaken (fun _ _ _ _ => trivial)⟩⟩ rfl rfl hl.1 rfl (lv_room (Nat.le_of_ble_eq_true rfl)) dX6_learn_208 ⟨Nat.le_of_ble_eq_true rfl, Nat.le_of_ble_eq_true rfl⟩) hS (fun q _ h => hFc q h) hFc (fun u t H1 locs ht hvm hw hB hz1 hk1 hS => ?_)
    obtain ⟨g_8, hP1, hK1, hD1⟩ := hB
    rw [ht] at hP1
    try dsimp only at hw
    obtain ⟨hP, hD⟩ := va_join (wr := [(h1, .inr (0, [.int 0, .int 0, .int 0, .int 0, .int 0, .ref f5, .ref f6, .ref f7, .ref f8, .ref f9, .ref f10, .ref f11])), (b2, .inl (cI, 16, .inl (fun _ => 0))), (b3, .inl (cI, 16, .inl (fun _ => 0)))]) (w1 := [(h0, .inr (6, [.ref b0, .ref b1, .ref b2, .ref b3, .ref b4, .ref b5, .ref b6, .int 0, .int 0, .int 0, .int 0, .int 0])), (b4, .inl (cI, 16, .inl (ft))), (b5, .inl (cI, 32, .inl (g_8)))]) hP hD [0, 1, 2] [3, 4, 5] rfl rfl (by decide) (by decide) hk1 hFc hP1 hD1
    clear hPc hDc hKc hFc hk1 hP1 hK1 hD1
    generalize H1 = H at hP hS ⊢
    have hP : va_P (dC, dI) vwCl [(h1, .inr (0, [.int 0, .int 0, .int 0, .int 0, .int 0, .ref f5, .ref f6, .ref f7, .ref f8, .ref f9, .ref f10, .ref f11])), (b2, .inl (cI, 16, .inl (fun _ => 0))), (b3, .inl (cI, 16, .inl (fun _ => 0))), (h0, .inr (6, [.ref b0, .ref b1, .ref b2, .ref b3, .ref b4, .ref b5, .ref b6, .int 0, .int 0, .int 0, .int 0, .int 0])), (b4, .inl (cI, 16, .inl (ft))), (b5, .inl (cI, 32, .inl (g_8)))] H := hP
    have hD : va_D A [(h1, .inr (0, [.int 0, .int 0, .int 0, .int 0, .int 0, .ref f5, .ref f6, .ref f7, .ref f8, .ref f9, .ref f10, .ref f11])), (b2, .inl (cI, 16, .inl (fun _ => 0))), (b3, .inl (cI, 16, .inl (fun _ => 0))), (h0, .inr (6, [.ref b0, .ref b1, .ref b2, .ref b3, .ref b4, .ref b5, .ref b6, .int 0, .int 0, .int 0, .int 0, .int 0])), (b4, .inl (cI, 16, .inl (ft))), (b5, .inl (cI, 32, .inl (g_8)))] := hD
    have hP9 := hP.sub (ws' := [(h0, .inr (6, [.ref b0, .ref b1, .ref b2, .ref b3, .ref b4, .ref b5, .ref b6, .int 0, .int 0, .int 0, .int 0, .int 0])), (h1, .inr (0, [.int 0, .int 0, .int 0, .int 0, .int 0, .ref f5, .ref f6, .ref f7, .ref f8, .ref f9, .ref f10, .ref f11])), (b2, .inl (cI, 16, .inl (fun _ => 0))), (b3, .inl (cI, 16, .inl (fun _ => 0))), (b4, .inl (cI, 16, .inl (ft))), (b5, .inl (cI, 32, .inl (g_8)))]) [3, 0, 1, 2, 4, 5] rfl
    have hD9 := hD.sub (ws' := [(h0, .inr (6, [.ref b0, .ref b1, .ref b2, .ref b3, .ref b4, .ref b5, .ref b6, .int 0, .int 0, .int 0, .int 0, .int 0])), (h1, .inr (0, [.int 0, .int 0, .int 0, .int 0, .int 0, .ref f5, .ref f6, .ref f7, .ref f8, .ref f9, .ref f10, .ref f11])), (b2, .inl (cI, 16, .inl (fun _ => 0))), (b3, .inl (cI, 16, .inl (fun _ => 0))), (b4, .inl (cI, 16, .inl (ft))), (b5, .inl (cI, 32, .inl (g_8)))]) [3, 0, 1, 2, 4, 5] (by decide) rfl
    exact W.vret hx hb hr (fun t ht hW => ⟨⟨(), rfl, trivial, ft, g_8, by rw [ht]; exact hP9, va_K.moved hW.alike hK, hD9⟩, hS.F ht⟩) hS.2.2 dX6_learn_211
  · have i_7 : (nI tr).toInt < 16 := Int32.lt_iff_toInt_lt.mp (Int32.not_le.mp c_7)
    have htr15 : tr < 16 := (Nat.not_le.mp (mt (fun h => (nI_leI (a := 16) (b := tr) (by omega) (by omega)).mpr h) c_7))
    refine lv_aload_n hx hb dX6_learn_178 rfl (lv_at hl 0 rfl) ?_
    refine va_get (D := (dC, dI)) (ci := 6) (v := .ref b4) (C := RX6) (T := TX6) (N := 12) hx hb hts i_c_X6_learn_0_X6 hown hK hP 0 rfl rfl 4 (by decide) (hts (.fieldLink RX6 24 "OnePassport$Rules" "trails" "[I") (List.mem_of_getElem? (i := 36) rfl)) (fun _ h9 => h9) rfl dX6_learn_179 ?_
    refine lv_iload hx hb dX6_learn_182 (lv_at hl 4 rfl) ?_
    refine lv_iload_n hx hb dX6_learn_184 rfl (lv_at hl 2 rfl) ?_
    refine lv_if_eq (tgt := 197) hx hb dX6_learn_185 (by decide) (fun c_10 => absurd c_10 (by decide)) (fun c_10 => ?_)
    refine lv_iload hx hb dX6_learn_188 (lv_at hl 4 rfl) ?_
    refine lv_iload_n hx hb dX6_learn_190 rfl (lv_at hl 3 rfl) ?_
    have hPc := hP.sub (ws' := []) [] rfl
    have hDc := hD.sub (ws' := []) [] (by decide) rfl
    have hKc := hK.sub (tys' := []) [] rfl
    have hFc := va_free (wc := []) hD hS hA [] rfl
    refine va_calli (va_runS (As := [.int (nI tr), .int 0]) (rest := [.int (nI tr), .ref b4]) ⟨hx, hb, hml, hown, hts⟩ (c_X6_mergedTrail_0 l dC dI (nI tr) H.size) (va_cwS 2 hts g_c_X6_learn_0_4 rfl rfl rfl (by decide +kernel) ⟨Nat.le_of_ble_eq_true rfl, Nat.le_of_ble_eq_true rfl⟩) ⟨fun a U g mk q => by obtain ⟨q0, q1, qP, qK, qD⟩ := q; exact ⟨q0, q1, qP, va_K.moved (u := U) (U := U.calling g mk a) (Vm.Alike.refl U.vm) qK, qD⟩, fun U hU hW => ⟨rfl, by rw [hU], by rw [hU]; exact hPc, va_K.moved hW.alike hKc, hDc.weaken (fun _ _ _ _ => trivial)⟩⟩ rfl rfl hl.1 rfl (lv_room (Nat.le_of_ble_eq_true rfl)) dX6_learn_191 ⟨Nat.le_of_ble_eq_true rfl, Nat.le_of_ble_eq_true rfl⟩) hS (fun q _ h => hFc q h) hFc (fun r_11 u t H1 locs ht hvm hw hB hz1 hk1 hS => ?_)
    obtain ⟨hP1, hK1, hD1⟩ := hB
    rw [ht] at hP1
    try dsimp only at hw
    obtain ⟨hP, hD⟩ := va_join (wr := [(h0, .inr (6, [.ref b0, .ref b1, .ref b2, .ref b3, .ref b4, .ref b5, .ref b6, .int 0, .int 0, .int 0, .int 0, .int 0])), (b4, .inl (cI, 16, .inl (ft))), (b5, .inl (cI, 32, .inl (ff5))), (h1, .inr (0, [.int 0, .int 0, .int 0, .int 0, .int 0, .ref f5, .ref f6, .ref f7, .ref f8, .ref f9, .ref f10, .ref f11])), (b2, .inl (cI, 16, .inl (fun _ => 0))), (b3, .inl (cI, 16, .inl (fun _ => 0)))]) (w1 := []) hP hD [] [0, 1, 2, 3, 4, 5] rfl rfl (by decide) (by decide) hk1 hFc hP1 hD1
    clear hPc hDc hKc hFc hk1 hP1 hK1 hD1
    generalize H1 = H at hP hS ⊢
    have hP : va_P (dC, dI) vwCl [(h0, .inr (6, [.ref b0, .ref b1, .ref b2, .ref b3, .ref b4, .ref b5, .ref b6, .int 0, .int 0, .int 0, .int 0, .int 0])), (b4, .inl (cI, 16, .inl (ft))), (b5, .inl (cI, 32, .inl (ff5))), (h1, .inr (0, [.int 0, .int 0, .int 0, .int 0, .int 0, .ref f5, .ref f6, .ref f7, .ref f8, .ref f9, .ref f10, .ref f11])), (b2, .inl (cI, 16, .inl (fun _ => 0))), (b3, .inl (cI, 16, .inl (fun _ => 0)))] H := hP
    have hD : va_D A [(h0, .inr (6, [.ref b0, .ref b1, .ref b2, .ref b3, .ref b4, .ref b5, .ref b6, .int 0, .int 0, .int 0, .int 0, .int 0])), (b4, .inl (cI, 16, .inl (ft))), (b5, .inl (cI, 32, .inl (ff5))), (h1, .inr (0, [.int 0, .int 0, .int 0, .int 0, .int 0, .ref f5, .ref f6, .ref f7, .ref f8, .ref f9, .ref f10, .ref f11])), (b2, .inl (cI, 16, .inl (fun _ => 0))), (b3, .inl (cI, 16, .inl (fun _ => 0)))] := hD
    have er_11 : r_11 = 1 := hw
    refine wx_ti (y := 1) er_11 ?_
    refine lv_goto (tgt := 199) hx hb dX6_learn_194 (by decide) ?_
    refine va_iast hx hb hK hP hD hS 1 0 rfl rfl (i := (nI tr)) (x := 1) (vp_in_nI htr15 (by decide)) dX6_learn_199 (fun H locs hP hD hS => ?_)
    have hP : va_P (dC, dI) vwCl [(h0, .inr (6, [.ref b0, .ref b1, .ref b2, .ref b3, .ref b4, .ref b5, .ref b6, .int 0, .int 0, .int 0, .int 0, .int 0])), (b4, .inl (cI, 16, .inl (upd (ft) ((nI tr) : Int32).toNatClampNeg 1))), (b5, .inl (cI, 32, .inl (ff5))), (h1, .inr (0, [.int 0, .int 0, .int 0, .int 0, .int 0, .ref f5, .ref f6, .ref f7, .ref f8, .ref f9, .ref f10, .ref f11])), (b2, .inl (cI, 16, .inl (fun _ => 0))), (b3, .inl (cI, 16, .inl (fun _ => 0)))] H := hP
    have hD : va_D A [(h0, .inr (6, [.ref b0, .ref b1, .ref b2, .ref b3, .ref b4, .ref b5, .ref b6, .int 0, .int 0, .int 0, .int 0, .int 0])), (b4, .inl (cI, 16, .inl (upd (ft) ((nI tr) : Int32).toNatClampNeg 1))), (b5, .inl (cI, 32, .inl (ff5))), (h1, .inr (0, [.int 0, .int 0, .int 0, .int 0, .int 0, .ref f5, .ref f6, .ref f7, .ref f8, .ref f9, .ref f10, .ref f11])), (b2, .inl (cI, 16, .inl (fun _ => 0))), (b3, .inl (cI, 16, .inl (fun _ => 0)))] := hD
    obtain ⟨x_12, ex_12⟩ : ∃ y : Int32, y = (nI tr) + 1 := ⟨_, rfl⟩
    refine lv_iinc (v := x_12) (lv' := [(4, .int x_12), (0, .ref h0), (1, .ref h1), (2, .int 1), (3, .int 0)]) hx hb dX6_learn_200 hl (k := 4) rfl (by rw [ex_12]; rfl) (by decide) rfl (fun ls hl => ?_)
    refine lv_goto (tgt := 171) hx hb dX6_learn_203 (by decide) ?_
    have hx9 : x_12 = nI (tr + 1) := by rw [ex_12]; exact nI_1 tr
    rw [hx9] at hl
    exact ih171 (tr + 1, upd (ft) ((nI tr) : Int32).toNatClampNeg 1) _ _ _ (by show 16 - (tr + 1) < 16 - tr; omega) ⟨by omega, hP.sub [0, 1, 2, 3, 4, 5] rfl, hD.sub [0, 1, 2, 3, 4, 5] (by decide) rfl, hS, lv_sub hl [1, 2, 3, 4, 0] rfl⟩
