theorem dX6_learnStamps_0 : decode cX6_learnStamps 0 = .ok (.iconst 1, 1) := by decide +kernel
theorem dX6_learnStamps_1 : decode cX6_learnStamps 1 = .ok (.istore_n 2, 1) := by decide +kernel
theorem dX6_learnStamps_2 : decode cX6_learnStamps 2 = .ok (.iload_n 2, 1) := by decide +kernel
theorem dX6_learnStamps_3 : decode cX6_learnStamps 3 = .ok (.bipush 16, 2) := by decide +kernel
theorem dX6_learnStamps_5 : decode cX6_learnStamps 5 = .ok (.if_icmp .ge 91, 3) := by decide +kernel
theorem dX6_learnStamps_8 : decode cX6_learnStamps 8 = .ok (.iconst 0, 1) := by decide +kernel
theorem dX6_learnStamps_9 : decode cX6_learnStamps 9 = .ok (.istore_n 3, 1) := by decide +kernel
theorem dX6_learnStamps_10 : decode cX6_learnStamps 10 = .ok (.iload_n 3, 1) := by decide +kernel
theorem dX6_learnStamps_11 : decode cX6_learnStamps 11 = .ok (.iconst 2, 1) := by decide +kernel
theorem dX6_learnStamps_12 : decode cX6_learnStamps 12 = .ok (.if_icmp .ge 78, 3) := by decide +kernel
theorem dX6_learnStamps_15 : decode cX6_learnStamps 15 = .ok (.iconst 2, 1) := by decide +kernel
theorem dX6_learnStamps_16 : decode cX6_learnStamps 16 = .ok (.iload_n 2, 1) := by decide +kernel
theorem dX6_learnStamps_17 : decode cX6_learnStamps 17 = .ok (.imul, 1) := by decide +kernel
theorem dX6_learnStamps_18 : decode cX6_learnStamps 18 = .ok (.iload_n 3, 1) := by decide +kernel
theorem dX6_learnStamps_19 : decode cX6_learnStamps 19 = .ok (.iadd, 1) := by decide +kernel
theorem dX6_learnStamps_20 : decode cX6_learnStamps 20 = .ok (.istore 4, 2) := by decide +kernel
theorem dX6_learnStamps_22 : decode cX6_learnStamps 22 = .ok (.aload_n 0, 1) := by decide +kernel
theorem dX6_learnStamps_23 : decode cX6_learnStamps 23 = .ok (.getfield 27, 3) := by decide +kernel
theorem dX6_learnStamps_26 : decode cX6_learnStamps 26 = .ok (.iload 4, 2) := by decide +kernel
theorem dX6_learnStamps_28 : decode cX6_learnStamps 28 = .ok (.aload_n 0, 1) := by decide +kernel
theorem dX6_learnStamps_29 : decode cX6_learnStamps 29 = .ok (.getfield 24, 3) := by decide +kernel
theorem dX6_learnStamps_32 : decode cX6_learnStamps 32 = .ok (.iload_n 2, 1) := by decide +kernel
theorem dX6_learnStamps_33 : decode cX6_learnStamps 33 = .ok (.iload_n 3, 1) := by decide +kernel
theorem dX6_learnStamps_34 : decode cX6_learnStamps 34 = .ok (.invokestatic 90, 3) := by decide +kernel
theorem dX6_learnStamps_37 : decode cX6_learnStamps 37 = .ok (.iaload, 1) := by decide +kernel
theorem dX6_learnStamps_38 : decode cX6_learnStamps 38 = .ok (.iastore, 1) := by decide +kernel
theorem dX6_learnStamps_39 : decode cX6_learnStamps 39 = .ok (.iconst 0, 1) := by decide +kernel
theorem dX6_learnStamps_40 : decode cX6_learnStamps 40 = .ok (.istore 5, 2) := by decide +kernel
theorem dX6_learnStamps_42 : decode cX6_learnStamps 42 = .ok (.iload 5, 2) := by decide +kernel
theorem dX6_learnStamps_44 : decode cX6_learnStamps 44 = .ok (.aload_n 0, 1) := by decide +kernel
theorem dX6_learnStamps_45 : decode cX6_learnStamps 45 = .ok (.getfield 55, 3) := by decide +kernel
theorem dX6_learnStamps_48 : decode cX6_learnStamps 48 = .ok (.if_icmp .ge 36, 3) := by decide +kernel
theorem dX6_learnStamps_84 : decode cX6_learnStamps 84 = .ok (.iinc 3 1, 3) := by decide +kernel
theorem dX6_learnStamps_87 : decode cX6_learnStamps 87 = .ok (.goto (-77), 3) := by decide +kernel
theorem dX6_learnStamps_90 : decode cX6_learnStamps 90 = .ok (.iinc 2 1, 3) := by decide +kernel
theorem dX6_learnStamps_93 : decode cX6_learnStamps 93 = .ok (.goto (-91), 3) := by decide +kernel
theorem dX6_learnStamps_96 : decode cX6_learnStamps 96 = .ok (.return_, 1) := by decide +kernel
def w_c_X6_learnStamps_0 : List Cond := .code yX6_learnStamps cX6_learnStamps 6 none :: ([.fieldLink RX6 27 "OnePassport$Rules" "nextTrails" "[I", .fieldLink RX6 24 "OnePassport$Rules" "trails" "[I", .methodLink RX6 90 yX6_longer, .static yX6_longer, .initialized RX6, .code yX6_longer cX6_longer 3 (some .int), .fieldLink RX6 55 "OnePassport$Rules" "posts" "I"] ++ wsX60)
theorem i_c_X6_learnStamps_0_X6 : ∀ w ∈ wsX60, w ∈ w_c_X6_learnStamps_0 := fun _ h => List.mem_cons_of_mem _ (List.mem_append_right _ h)
set_option maxRecDepth 100000 in
theorem g_c_X6_learnStamps_0_0 : GoodIn w_c_X6_learnStamps_0 (va_wsS RX6 90 yX6_longer w_c_X6_longer) := goodIn_of _ (by decide +kernel)
set_option maxHeartbeats 1000000 in
set_option maxRecDepth 100000 in
theorem c_X6_learnStamps_0 (l : Launch) (dC : Nat → ClassId) (dI : Nat → Nat → Nat) (cI : ClassId) (h0 : Nat) (h1 : Nat) (b0 : Nat) (b1 : Nat) (b2 : Nat) (b3 : Nat) (b4 : Nat) (b5 : Nat) (b6 : Nat) (ff4 : Nat → Int32) (ff5 : Nat → Int32) (sz : Nat) : Met l yX6_learnStamps w_c_X6_learnStamps_0 ({ frames := 1, cells := 0, slots := 0, locals := 22 }) (va_Pc [.ref h0, .ref h1] (fun U => U.heap.size = sz ∧ va_P (dC, dI) vwCl [(h0, .inr (6, [.ref b0, .ref b1, .ref b2, .ref b3, .ref b4, .ref b5, .ref b6, .int 0, .int 0, .int 0, .int 0, .int 0])), (b4, .inl (cI, 16, .inl (ff4))), (b5, .inl (cI, 32, .inl (ff5)))] U.heap ∧ va_K (dC, dI) vwCl [(cI, .int)] U ∧ va_D (fun _ => True) [(h0, .inr (6, [.ref b0, .ref b1, .ref b2, .ref b3, .ref b4, .ref b5, .ref b6, .int 0, .int 0, .int 0, .int 0, .int 0])), (b4, .inl (cI, 16, .inl (ff4))), (b5, .inl (cI, 32, .inl (ff5)))])) (va_Qv (fun _ : Unit => True) (fun (_ : Unit) (t : State) => ∃ (g5 : Nat → Int32), va_P (dC, dI) vwCl [(h0, .inr (6, [.ref b0, .ref b1, .ref b2, .ref b3, .ref b4, .ref b5, .ref b6, .int 0, .int 0, .int 0, .int 0, .int 0])), (b4, .inl (cI, 16, .inl (ff4))), (b5, .inl (cI, 32, .inl (g5)))] t.heap ∧ va_K (dC, dI) vwCl [(cI, .int)] t ∧ va_D (va_A [(h0, .inr (6, [.ref b0, .ref b1, .ref b2, .ref b3, .ref b4, .ref b5, .ref b6, .int 0, .int 0, .int 0, .int 0, .int 0])), (b4, .inl (cI, 16, .inl (ff4))), (b5, .inl (cI, 32, .inl (ff5)))] sz) [(h0, .inr (6, [.ref b0, .ref b1, .ref b2, .ref b3, .ref b4, .ref b5, .ref b6, .int 0, .int 0, .int 0, .int 0, .int 0])), (b4, .inl (cI, 16, .inl (ff4))), (b5, .inl (cI, 32, .inl (g5)))]) (va_A [(h0, .inr (6, [.ref b0, .ref b1, .ref b2, .ref b3, .ref b4, .ref b5, .ref b6, .int 0, .int 0, .int 0, .int 0, .int 0])), (b4, .inl (cI, 16, .inl (ff4))), (b5, .inl (cI, 32, .inl (ff5)))] sz)) 0 0 (va_A [(h0, .inr (6, [.ref b0, .ref b1, .ref b2, .ref b3, .ref b4, .ref b5, .ref b6, .int 0, .int 0, .int 0, .int 0, .int 0])), (b4, .inl (cI, 16, .inl (ff4))), (b5, .inl (cI, 32, .inl (ff5)))] sz) := by
  refine Met.ofW (cc := cX6_learnStamps) (maxL := 6) (ret := none) (by decide) rfl ?_
  intro p e s m args below meth c s₁ B hml hv
  obtain ⟨rfl, hsz, hP, hK, hD0⟩ := hv
  have hx := B.exec
  have hb := B.bytes
  have hr := B.returns
  have hts := atoms_spec (ws := w_c_X6_learnStamps_0) B.pre
  have hown : s.vm.findClass RX6 = some m.cls := findClass_of_methodNamed B.named
  have hlocks := B.notSynchronized
  subst hsz
  have hD := hD0.self (sz := s.heap.size)
  generalize hAe : va_A [(h0, .inr (6, [.ref b0, .ref b1, .ref b2, .ref b3, .ref b4, .ref b5, .ref b6, .int 0, .int 0, .int 0, .int 0, .int 0])), (b4, .inl (cI, 16, .inl (ff4))), (b5, .inl (cI, 32, .inl (ff5)))] s.heap.size = A at hD ⊢
  have hA : ∀ q : Nat, s.heap.size ≤ q → A q := fun q h => by rw [← hAe]; exact Or.inr h
  have hS : va_S A s.heap s.heap [] := va_S.rf
  have hP : va_P (dC, dI) vwCl [(h0, .inr (6, [.ref b0, .ref b1, .ref b2, .ref b3, .ref b4, .ref b5, .ref b6, .int 0, .int 0, .int 0, .int 0, .int 0])), (b4, .inl (cI, 16, .inl (ff4))), (b5, .inl (cI, 32, .inl (ff5)))] s.heap := hP
  have hl := lv_entry ([.ref h0, .ref h1]) (n := 6) (Nat.le_of_ble_eq_true rfl)
  rw [lg_entry_eq]
  generalize (lg_sl ([.ref h0, .ref h1]) ++ List.replicate (6 - (lg_sl ([.ref h0, .ref h1])).length) Slot.unset).toArray = ls at hl ⊢
  have hl : lv_has ls 6 [(0, .ref h0), (1, .ref h1)] := hl
  refine lv_iconst (v := 1) hx hb dX6_learnStamps_0 (by decide) ?_
  refine lv_istore_n (lv' := [(2, .int 1), (0, .ref h0), (1, .ref h1)]) hx hb dX6_learnStamps_1 rfl hl (by decide) rfl (fun ls hl => ?_)
  refine wx_loopM (σ := Nat × (Nat → Int32)) (fun x => 16 - (x.1)) (fun x H locs ls => (x.1) ≤ 16 ∧ va_P (dC, dI) vwCl [(h0, .inr (6, [.ref b0, .ref b1, .ref b2, .ref b3, .ref b4, .ref b5, .ref b6, .int 0, .int 0, .int 0, .int 0, .int 0])), (b4, .inl (cI, 16, .inl (ff4))), (b5, .inl (cI, 32, .inl ((x.2))))] H ∧ va_D A [(h0, .inr (6, [.ref b0, .ref b1, .ref b2, .ref b3, .ref b4, .ref b5, .ref b6, .int 0, .int 0, .int 0, .int 0, .int 0])), (b4, .inl (cI, 16, .inl (ff4))), (b5, .inl (cI, 32, .inl ((x.2))))] ∧ va_S A s.heap H locs ∧ lv_has ls 6 [(0, .ref h0), (1, .ref h1), (2, .int (nI (x.1)))]) (1, ff5) ⟨Nat.le_of_ble_eq_true rfl, hP, hD, hS, lv_sub hl [1, 2, 0] rfl⟩ (fun x H locs ls hI ih2 => ?_)
  obtain ⟨tr, ft⟩ := x
  dsimp only at hI ih2
  obtain ⟨ht9, hP, hD, hS, hl⟩ := hI
  refine lv_iload_n hx hb dX6_learnStamps_2 rfl (lv_at hl 2 rfl) ?_
  refine lv_bipush (v := 16) hx hb dX6_learnStamps_3 (by decide) ?_
  refine lv_icmp_ge (tgt := 96) hx hb dX6_learnStamps_5 (by decide) (fun c_1 => ?_) (fun c_1 => ?_)
  · have i_1 : 16 ≤ (nI tr).toInt := Int32.le_iff_toInt_le.mp c_1
    have hP9 := hP.sub (ws' := [(h0, .inr (6, [.ref b0, .ref b1, .ref b2, .ref b3, .ref b4, .ref b5, .ref b6, .int 0, .int 0, .int 0, .int 0, .int 0])), (b4, .inl (cI, 16, .inl (ff4))), (b5, .inl (cI, 32, .inl (ft)))]) [0, 1, 2] rfl
    have hD9 := hD.sub (ws' := [(h0, .inr (6, [.ref b0, .ref b1, .ref b2, .ref b3, .ref b4, .ref b5, .ref b6, .int 0, .int 0, .int 0, .int 0, .int 0])), (b4, .inl (cI, 16, .inl (ff4))), (b5, .inl (cI, 32, .inl (ft)))]) [0, 1, 2] (by decide) rfl
    exact W.vret hx hb hr (fun t ht hW => ⟨⟨(), rfl, trivial, ft, by rw [ht]; exact hP9, va_K.moved hW.alike hK, hD9⟩, hS.F ht⟩) hS.2.2 dX6_learnStamps_96
  · have i_1 : (nI tr).toInt < 16 := Int32.lt_iff_toInt_lt.mp (Int32.not_le.mp c_1)
    refine lv_iconst (v := 0) hx hb dX6_learnStamps_8 (by decide) ?_
    refine lv_istore_n (lv' := [(3, .int 0), (0, .ref h0), (1, .ref h1), (2, .int (nI tr))]) hx hb dX6_learnStamps_9 rfl hl (by decide) rfl (fun ls hl => ?_)
    have ht15 : tr < 16 := (Nat.not_le.mp (mt (fun h => (nI_leI (a := 16) (b := tr) (by omega) (by omega)).mpr h) c_1))
    refine wx_loopM (σ := Nat × (Nat → Int32)) (fun x => 2 - (x.1)) (fun x H locs ls => (x.1) ≤ 2 ∧ va_P (dC, dI) vwCl [(h0, .inr (6, [.ref b0, .ref b1, .ref b2, .ref b3, .ref b4, .ref b5, .ref b6, .int 0, .int 0, .int 0, .int 0, .int 0])), (b4, .inl (cI, 16, .inl (ff4))), (b5, .inl (cI, 32, .inl ((x.2))))] H ∧ va_D A [(h0, .inr (6, [.ref b0, .ref b1, .ref b2, .ref b3, .ref b4, .ref b5, .ref b6, .int 0, .int 0, .int 0, .int 0, .int 0])), (b4, .inl (cI, 16, .inl (ff4))), (b5, .inl (cI, 32, .inl ((x.2))))] ∧ va_S A s.heap H locs ∧ lv_has ls 6 [(0, .ref h0), (1, .ref h1), (2, .int (nI tr)), (3, .int (nI (x.1)))]) (0, ft) ⟨Nat.le_of_ble_eq_true rfl, hP, hD, hS, lv_sub hl [1, 2, 3, 0] rfl⟩ (fun x H locs ls hI ih10 => ?_)
    obtain ⟨br, fb⟩ := x
    dsimp only at hI ih10
    obtain ⟨hb9, hP, hD, hS, hl⟩ := hI
    refine lv_iload_n hx hb dX6_learnStamps_10 rfl (lv_at hl 3 rfl) ?_
    refine lv_iconst (v := 2) hx hb dX6_learnStamps_11 (by decide) ?_
    refine lv_icmp_ge (tgt := 90) hx hb dX6_learnStamps_12 (by decide) (fun c_2 => ?_) (fun c_2 => ?_)
    · have i_2 : 2 ≤ (nI br).toInt := Int32.le_iff_toInt_le.mp c_2
      obtain ⟨x_3, ex_3⟩ : ∃ y : Int32, y = (nI tr) + 1 := ⟨_, rfl⟩
      refine lv_iinc (v := x_3) (lv' := [(2, .int x_3), (0, .ref h0), (1, .ref h1), (3, .int (nI br))]) hx hb dX6_learnStamps_90 hl (k := 2) rfl (by rw [ex_3]; rfl) (by decide) rfl (fun ls hl => ?_)
      refine lv_goto (tgt := 2) hx hb dX6_learnStamps_93 (by decide) ?_
      have hx9 : x_3 = nI (tr + 1) := by rw [ex_3]; exact nI_1 tr
      rw [hx9] at hl
      exact ih2 (tr + 1, fb) _ _ _ (by show 16 - (tr + 1) < 16 - tr; omega) ⟨by omega, hP.sub [0, 1, 2] rfl, hD.sub [0, 1, 2] (by decide) rfl, hS, lv_sub hl [1, 2, 0] rfl⟩
    · have i_2 : (nI br).toInt < 2 := Int32.lt_iff_toInt_lt.mp (Int32.not_le.mp c_2)
      have hb1 : br < 2 := (Nat.not_le.mp (mt (fun h => (nI_leI (a := 2) (b := br) (by omega) (by omega)).mpr h) c_2))
      refine lv_iconst (v := 2) hx hb dX6_learnStamps_15 (by decide) ?_
      refine lv_iload_n hx hb dX6_learnStamps_16 rfl (lv_at hl 2 rfl) ?_
      refine lv_imul hx hb dX6_learnStamps_17 ?_
      refine lv_iload_n hx hb dX6_learnStamps_18 rfl (lv_at hl 3 rfl) ?_
      refine lv_iadd hx hb dX6_learnStamps_19 ?_
      refine lv_istore (lv' := [(4, .int ((2 * (nI tr)) + (nI br))), (0, .ref h0), (1, .ref h1), (2, .int (nI tr)), (3, .int (nI br))]) hx hb dX6_learnStamps_20 hl (by decide) rfl (fun ls hl => ?_)
      refine lv_aload_n hx hb dX6_learnStamps_22 rfl (lv_at hl 1 rfl) ?_
      refine va_get (D := (dC, dI)) (ci := 6) (v := .ref b5) (C := RX6) (T := TX6) (N := 12) hx hb hts i_c_X6_learnStamps_0_X6 hown hK hP 0 rfl rfl 5 (by decide) (hts (.fieldLink RX6 27 "OnePassport$Rules" "nextTrails" "[I") (List.mem_of_getElem? (i := 1) rfl)) (fun _ h9 => h9) rfl dX6_learnStamps_23 ?_
      refine lv_iload hx hb dX6_learnStamps_26 (lv_at hl 0 rfl) ?_
      refine lv_aload_n hx hb dX6_learnStamps_28 rfl (lv_at hl 1 rfl) ?_
      refine va_get (D := (dC, dI)) (ci := 6) (v := .ref b4) (C := RX6) (T := TX6) (N := 12) hx hb hts i_c_X6_learnStamps_0_X6 hown hK hP 0 rfl rfl 4 (by decide) (hts (.fieldLink RX6 24 "OnePassport$Rules" "trails" "[I") (List.mem_of_getElem? (i := 2) rfl)) (fun _ h9 => h9) rfl dX6_learnStamps_29 ?_
      refine lv_iload_n hx hb dX6_learnStamps_32 rfl (lv_at hl 3 rfl) ?_
      refine lv_iload_n hx hb dX6_learnStamps_33 rfl (lv_at hl 4 rfl) ?_
      have hPc := hP.sub (ws' := []) [] rfl
      have hDc := hD.sub (ws' := []) [] (by decide) rfl
      have hKc := hK.sub (tys' := []) [] rfl
      have hFc := va_free (wc := []) hD hS hA [] rfl
      refine va_calli (va_runS (As := [.int (nI tr), .int (nI br)]) (rest := [.ref b4, .int ((2 * (nI tr)) + (nI br)), .ref b5]) ⟨hx, hb, hml, hown, hts⟩ (c_X6_longer l dC dI tr br ht15 hb1 H.size) (va_cwS 2 hts g_c_X6_learnStamps_0_0 rfl rfl rfl (by decide +kernel) ⟨Nat.le_of_ble_eq_true rfl, Nat.le_of_ble_eq_true rfl⟩) ⟨fun a U g mk q => by obtain ⟨q0, q1, qP, qK, qD⟩ := q; exact ⟨q0, q1, qP, va_K.moved (u := U) (U := U.calling g mk a) (Vm.Alike.refl U.vm) qK, qD⟩, fun U hU hW => ⟨rfl, by rw [hU], by rw [hU]; exact hPc, va_K.moved hW.alike hKc, hDc.weaken (fun _ _ _ _ => trivial)⟩⟩ rfl rfl hl.1 rfl (lv_room (Nat.le_of_ble_eq_true rfl)) dX6_learnStamps_34 ⟨Nat.le_of_ble_eq_true rfl, Nat.le_of_ble_eq_true rfl⟩) hS (fun q _ h => hFc q h) hFc (fun r_4 u t H1 locs ht hvm hw hB hz1 hk1 hS => ?_)
      obtain ⟨hP1, hK1, hD1⟩ := hB
      rw [ht] at hP1
      try dsimp only at hw
      obtain ⟨hP, hD⟩ := va_join (wr := [(h0, .inr (6, [.ref b0, .ref b1, .ref b2, .ref b3, .ref b4, .ref b5, .ref b6, .int 0, .int 0, .int 0, .int 0, .int 0])), (b4, .inl (cI, 16, .inl (ff4))), (b5, .inl (cI, 32, .inl (fb)))]) (w1 := []) hP hD [] [0, 1, 2] rfl rfl (by decide) (by decide) hk1 hFc hP1 hD1
      clear hPc hDc hKc hFc hk1 hP1 hK1 hD1
      generalize H1 = H at hP hS ⊢
      have hP : va_P (dC, dI) vwCl [(h0, .inr (6, [.ref b0, .ref b1, .ref b2, .ref b3, .ref b4, .ref b5, .ref b6, .int 0, .int 0, .int 0, .int 0, .int 0])), (b4, .inl (cI, 16, .inl (ff4))), (b5, .inl (cI, 32, .inl (fb)))] H := hP
      have hD : va_D A [(h0, .inr (6, [.ref b0, .ref b1, .ref b2, .ref b3, .ref b4, .ref b5, .ref b6, .int 0, .int 0, .int 0, .int 0, .int 0])), (b4, .inl (cI, 16, .inl (ff4))), (b5, .inl (cI, 32, .inl (fb)))] := hD
      have hw_r_4 := hw
      obtain ⟨k_r_4, hk_r_4, ek_r_4⟩ := hw_r_4
      refine wx_ti (y := nI k_r_4) ek_r_4 ?_
      refine va_iald hx hb hK hP 1 0 rfl rfl (i := (nI k_r_4)) (vp_in_nI hk_r_4 (by decide)) dX6_learnStamps_37 ?_
      refine va_iast hx hb hK hP hD hS 2 0 rfl rfl (i := ((2 * (nI tr)) + (nI br))) (x := ((ff4) ((nI k_r_4) : Int32).toNatClampNeg)) (by rw [show (2 * nI tr + nI br : Int32) = nI (2 * tr + br) from by rw [show (2 : Int32) = nI 2 from rfl, pk_mul, nI_add]]; exact vp_in_nI (by omega) (by decide)) dX6_learnStamps_38 (fun H locs hP hD hS => ?_)
      have hP : va_P (dC, dI) vwCl [(h0, .inr (6, [.ref b0, .ref b1, .ref b2, .ref b3, .ref b4, .ref b5, .ref b6, .int 0, .int 0, .int 0, .int 0, .int 0])), (b4, .inl (cI, 16, .inl (ff4))), (b5, .inl (cI, 32, .inl (upd (fb) (((2 * (nI tr)) + (nI br)) : Int32).toNatClampNeg ((ff4) ((nI k_r_4) : Int32).toNatClampNeg))))] H := hP
      have hD : va_D A [(h0, .inr (6, [.ref b0, .ref b1, .ref b2, .ref b3, .ref b4, .ref b5, .ref b6, .int 0, .int 0, .int 0, .int 0, .int 0])), (b4, .inl (cI, 16, .inl (ff4))), (b5, .inl (cI, 32, .inl (upd (fb) (((2 * (nI tr)) + (nI br)) : Int32).toNatClampNeg ((ff4) ((nI k_r_4) : Int32).toNatClampNeg))))] := hD
      refine lv_iconst (v := 0) hx hb dX6_learnStamps_39 (by decide) ?_
      refine lv_istore (lv' := [(5, .int 0), (4, .int ((2 * (nI tr)) + (nI br))), (0, .ref h0), (1, .ref h1), (2, .int (nI tr)), (3, .int (nI br))]) hx hb dX6_learnStamps_40 hl (by decide) rfl (fun ls hl => ?_)
      refine lv_iload hx hb dX6_learnStamps_42 (lv_at hl 0 rfl) ?_
      refine lv_aload_n hx hb dX6_learnStamps_44 rfl (lv_at hl 2 rfl) ?_
      refine va_get (D := (dC, dI)) (ci := 6) (v := .int 0) (C := RX6) (T := TX6) (N := 12) hx hb hts i_c_X6_learnStamps_0_X6 hown hK hP 0 rfl rfl 10 (by decide) (hts (.fieldLink RX6 55 "OnePassport$Rules" "posts" "I") (List.mem_of_getElem? (i := 7) rfl)) (fun _ h9 => h9) rfl dX6_learnStamps_45 ?_
      refine lv_icmp_ge (tgt := 84) hx hb dX6_learnStamps_48 (by decide) (fun c_5 => ?_) (fun c_5 => absurd (by decide) c_5)
      obtain ⟨x_6, ex_6⟩ : ∃ y : Int32, y = (nI br) + 1 := ⟨_, rfl⟩
      refine lv_iinc (v := x_6) (lv' := [(3, .int x_6), (5, .int 0), (4, .int ((2 * (nI tr)) + (nI br))), (0, .ref h0), (1, .ref h1), (2, .int (nI tr))]) hx hb dX6_learnStamps_84 hl (k := 5) rfl (by rw [ex_6]; rfl) (by decide) rfl (fun ls hl => ?_)
      refine lv_goto (tgt := 10) hx hb dX6_learnStamps_87 (by decide) ?_
      have hx9 : x_6 = nI (br + 1) := by rw [ex_6]; exact nI_1 br
      rw [hx9] at hl
      exact ih10 (br + 1, upd (fb) (((2 * (nI tr)) + (nI br)) : Int32).toNatClampNeg ((ff4) ((nI k_r_4) : Int32).toNatClampNeg)) _ _ _ (by show 2 - (br + 1) < 2 - br; omega) ⟨by omega, hP.sub [0, 1, 2] rfl, hD.sub [0, 1, 2] (by decide) rfl, hS, lv_sub hl [3, 4, 5, 0] rfl⟩
