theorem dJ7_fill_53178_0 : decode cJ7_fill_53178 0 = .ok (.iconst 0, 1) := by decide +kernel
theorem dJ7_fill_53178_1 : decode cJ7_fill_53178 1 = .ok (.istore_n 2, 1) := by decide +kernel
theorem dJ7_fill_53178_2 : decode cJ7_fill_53178 2 = .ok (.aload_n 0, 1) := by decide +kernel
theorem dJ7_fill_53178_3 : decode cJ7_fill_53178 3 = .ok (.arraylength, 1) := by decide +kernel
theorem dJ7_fill_53178_4 : decode cJ7_fill_53178 4 = .ok (.istore_n 3, 1) := by decide +kernel
theorem dJ7_fill_53178_5 : decode cJ7_fill_53178 5 = .ok (.iload_n 2, 1) := by decide +kernel
theorem dJ7_fill_53178_6 : decode cJ7_fill_53178 6 = .ok (.iload_n 3, 1) := by decide +kernel
theorem dJ7_fill_53178_7 : decode cJ7_fill_53178 7 = .ok (.if_icmp .ge 13, 3) := by decide +kernel
theorem dJ7_fill_53178_10 : decode cJ7_fill_53178 10 = .ok (.aload_n 0, 1) := by decide +kernel
theorem dJ7_fill_53178_11 : decode cJ7_fill_53178 11 = .ok (.iload_n 2, 1) := by decide +kernel
theorem dJ7_fill_53178_12 : decode cJ7_fill_53178 12 = .ok (.iload_n 1, 1) := by decide +kernel
theorem dJ7_fill_53178_13 : decode cJ7_fill_53178 13 = .ok (.iastore, 1) := by decide +kernel
theorem dJ7_fill_53178_14 : decode cJ7_fill_53178 14 = .ok (.iinc 2 1, 3) := by decide +kernel
theorem dJ7_fill_53178_17 : decode cJ7_fill_53178 17 = .ok (.goto (-12), 3) := by decide +kernel
theorem dJ7_fill_53178_20 : decode cJ7_fill_53178 20 = .ok (.return_, 1) := by decide +kernel
def w_c_fillI : List Cond := .code yJ7_fill_53178 cJ7_fill_53178 4 none :: ([])
set_option maxHeartbeats 4000000 in
set_option maxRecDepth 100000 in
theorem c_fillI (l : Launch) (dC : Nat → ClassId) (dI : Nat → Nat → Nat) (cI : ClassId) (a0 : Nat) (n : Nat) (f : Nat → Int32) (v : Int32) (hn : n < 2147483648) (sz : Nat) : Met l yJ7_fill_53178 w_c_fillI ({ frames := 0, cells := 0, slots := 0, locals := 0 }) (va_Pc [.ref a0, .int v] (fun U => U.heap.size = sz ∧ va_P (dC, dI) vwCl [(a0, .inl (cI, n, .inl (f)))] U.heap ∧ va_K (dC, dI) vwCl [(cI, .int)] U ∧ va_D (fun _ => True) [(a0, .inl (cI, n, .inl (f)))])) (va_Qv (fun _ : Unit => True) (fun (_ : Unit) (t : State) => va_P (dC, dI) vwCl [(a0, .inl (cI, n, .inl (fun _ => v)))] t.heap ∧ va_K (dC, dI) vwCl [(cI, .int)] t ∧ va_D (va_A [(a0, .inl (cI, n, .inl (f)))] sz) [(a0, .inl (cI, n, .inl (fun _ => v)))]) (va_A [(a0, .inl (cI, n, .inl (f)))] sz)) 0 0 (va_A [(a0, .inl (cI, n, .inl (f)))] sz) := by
  refine Met.ofW (cc := cJ7_fill_53178) (maxL := 4) (ret := none) (by decide) rfl ?_
  intro p e s m args below meth c s₁ B hml hv
  obtain ⟨rfl, hsz, hP, hK, hD0⟩ := hv
  have hx := B.exec
  have hb := B.bytes
  have hr := B.returns
  have hts := atoms_spec (ws := w_c_fillI) B.pre
  have hown : s.vm.findClass RJ7 = some m.cls := findClass_of_methodNamed B.named
  have hlocks := B.notSynchronized
  subst hsz
  have hD := hD0.self (sz := s.heap.size)
  generalize hAe : va_A [(a0, .inl (cI, n, .inl (f)))] s.heap.size = A at hD ⊢
  have hA : ∀ q : Nat, s.heap.size ≤ q → A q := fun q h => by rw [← hAe]; exact Or.inr h
  have hS : va_S A s.heap s.heap [] := va_S.rf
  have hP : va_P (dC, dI) vwCl [(a0, .inl (cI, n, .inl (f)))] s.heap := hP
  have hl := lv_entry ([.ref a0, .int v]) (n := 4) (Nat.le_of_ble_eq_true rfl)
  rw [lg_entry_eq]
  generalize (lg_sl ([.ref a0, .int v]) ++ List.replicate (4 - (lg_sl ([.ref a0, .int v])).length) Slot.unset).toArray = ls at hl ⊢
  have hl : lv_has ls 4 [(0, .ref a0), (1, .int v)] := hl
  refine lv_iconst (v := 0) hx hb dJ7_fill_53178_0 (by decide) ?_
  refine lv_istore_n (lv' := [(2, .int 0), (0, .ref a0), (1, .int v)]) hx hb dJ7_fill_53178_1 rfl hl (by decide) rfl (fun ls hl => ?_)
  refine lv_aload_n hx hb dJ7_fill_53178_2 rfl (lv_at hl 1 rfl) ?_
  refine va_alen hx hb hK hP 0 0 rfl rfl (v := (Int32.ofNat n)) rfl dJ7_fill_53178_3 ?_
  refine lv_istore_n (lv' := [(3, .int (Int32.ofNat n)), (2, .int 0), (0, .ref a0), (1, .int v)]) hx hb dJ7_fill_53178_4 rfl hl (by decide) rfl (fun ls hl => ?_)
  have hfe : (f : Nat → Int32) = (fun j => if j < 0 then v else f j) := (by funext j; simp)
  rw [hfe] at hP hD
  clear hfe
  have hP : va_P (dC, dI) vwCl [(a0, .inl (cI, n, .inl (fun j => if j < 0 then v else f j)))] s.heap := hP
  have hD : va_D A [(a0, .inl (cI, n, .inl (fun j => if j < 0 then v else f j)))] := hD
  have hl : lv_has ls 4 [(3, .int (Int32.ofNat n)), (2, .int 0), (0, .ref a0), (1, .int v)] := hl
  refine wx_loopM (σ := Nat) (fun x => n - x) (fun x H locs ls => x ≤ n ∧ va_P (dC, dI) vwCl [(a0, .inl (cI, n, .inl (fun j => if j < x then v else f j)))] H ∧ va_D A [(a0, .inl (cI, n, .inl (fun j => if j < x then v else f j)))] ∧ va_S A s.heap H locs ∧ lv_has ls 4 [(3, .int (Int32.ofNat n)), (0, .ref a0), (1, .int v), (2, .int (nI x))]) 0 ⟨Nat.zero_le _, hP, hD, hS, lv_sub hl [0, 2, 3, 1] rfl⟩ (fun x H locs ls hI ih5 => ?_)
  obtain ⟨i, rfl⟩ : ∃ z, z = x := ⟨_, rfl⟩
  obtain ⟨hi, hP, hD, hS, hl⟩ := hI
  refine lv_iload_n hx hb dJ7_fill_53178_5 rfl (lv_at hl 3 rfl) ?_
  refine lv_iload_n hx hb dJ7_fill_53178_6 rfl (lv_at hl 0 rfl) ?_
  refine lv_icmp_ge (tgt := 20) hx hb dJ7_fill_53178_7 (by decide) (fun c_1 => ?_) (fun c_1 => ?_)
  · have i_1 : (Int32.ofNat n).toInt ≤ (nI i).toInt := Int32.le_iff_toInt_le.mp c_1
    have hin9 : i = n := by have := (nI_leI (by omega) (by omega)).mp c_1; omega
    have hP := wx_rowI (g := fun _ => v) hP (k := 0) rfl (fun j hj => by subst hin9; simp [hj])
    have hD := wx_setD (e' := .inl (cI, n, .inl (fun _ => v))) hD (k := 0) rfl
    have hP : va_P (dC, dI) vwCl [(a0, .inl (cI, n, .inl (fun _ => v)))] H := hP
    have hD : va_D A [(a0, .inl (cI, n, .inl (fun _ => v)))] := hD
    have hP9 := hP.sub (ws' := [(a0, .inl (cI, n, .inl (fun _ => v)))]) [0] rfl
    have hD9 := hD.sub (ws' := [(a0, .inl (cI, n, .inl (fun _ => v)))]) [0] (by decide) rfl
    exact W.vret hx hb hr (fun t ht hW => ⟨⟨(), rfl, trivial, by rw [ht]; exact hP9, va_K.moved hW.alike hK, hD9⟩, hS.F ht⟩) hS.2.2 dJ7_fill_53178_20
  · have i_1 : (nI i).toInt < (Int32.ofNat n).toInt := Int32.lt_iff_toInt_lt.mp (Int32.not_le.mp c_1)
    have hlt9 : i < n := Nat.not_le.mp (mt (fun h : n ≤ i => (nI_leI (by omega) (by omega)).mpr h) c_1)
    refine lv_aload_n hx hb dJ7_fill_53178_10 rfl (lv_at hl 1 rfl) ?_
    refine lv_iload_n hx hb dJ7_fill_53178_11 rfl (lv_at hl 3 rfl) ?_
    refine lv_iload_n hx hb dJ7_fill_53178_12 rfl (lv_at hl 2 rfl) ?_
    refine va_iast hx hb hK hP hD hS 0 0 rfl rfl (i := (nI i)) (x := v) (vp_in_nI hlt9 hn) dJ7_fill_53178_13 (fun H locs hP hD hS => ?_)
    have hP : va_P (dC, dI) vwCl [(a0, .inl (cI, n, .inl (upd (fun j => if j < i then v else f j) ((nI i) : Int32).toNatClampNeg v)))] H := hP
    have hD : va_D A [(a0, .inl (cI, n, .inl (upd (fun j => if j < i then v else f j) ((nI i) : Int32).toNatClampNeg v)))] := hD
    obtain ⟨x_2, ex_2⟩ : ∃ y : Int32, y = (nI i) + 1 := ⟨_, rfl⟩
    refine lv_iinc (v := x_2) (lv' := [(2, .int x_2), (3, .int (Int32.ofNat n)), (0, .ref a0), (1, .int v)]) hx hb dJ7_fill_53178_14 hl (k := 3) rfl (by rw [ex_2]; rfl) (by decide) rfl (fun ls hl => ?_)
    refine lv_goto (tgt := 5) hx hb dJ7_fill_53178_17 (by decide) ?_
    have hfe : (upd (fun j => if j < i then v else f j) ((nI i) : Int32).toNatClampNeg v : Nat → Int32) = (fun j => if j < i + 1 then v else f j) := (by funext j; rw [nI_clamp (by omega)]; by_cases h1 : j = i <;> by_cases h2 : j < i <;> simp [upd, h1, h2] <;> (try omega))
    rw [hfe] at hP hD
    clear hfe
    have hP : va_P (dC, dI) vwCl [(a0, .inl (cI, n, .inl (fun j => if j < i + 1 then v else f j)))] H := hP
    have hD : va_D A [(a0, .inl (cI, n, .inl (fun j => if j < i + 1 then v else f j)))] := hD
    have hx9 : x_2 = nI (i + 1) := by rw [ex_2]; exact nI_1 i
    rw [hx9] at hl
    exact ih5 (i + 1) _ _ _ (by show n - (i + 1) < n - i; omega) ⟨by omega, hP.sub [0] rfl, hD.sub [0] (by decide) rfl, hS, lv_sub hl [1, 2, 3, 0] rfl⟩

theorem dJ7_fill_d0a16_0 : decode cJ7_fill_d0a16 0 = .ok (.iconst 0, 1) := by decide +kernel
theorem dJ7_fill_d0a16_1 : decode cJ7_fill_d0a16 1 = .ok (.istore_n 3, 1) := by decide +kernel
theorem dJ7_fill_d0a16_2 : decode cJ7_fill_d0a16 2 = .ok (.aload_n 0, 1) := by decide +kernel
theorem dJ7_fill_d0a16_3 : decode cJ7_fill_d0a16 3 = .ok (.arraylength, 1) := by decide +kernel
theorem dJ7_fill_d0a16_4 : decode cJ7_fill_d0a16 4 = .ok (.istore 4, 2) := by decide +kernel
theorem dJ7_fill_d0a16_6 : decode cJ7_fill_d0a16 6 = .ok (.iload_n 3, 1) := by decide +kernel
theorem dJ7_fill_d0a16_7 : decode cJ7_fill_d0a16 7 = .ok (.iload 4, 2) := by decide +kernel
theorem dJ7_fill_d0a16_9 : decode cJ7_fill_d0a16 9 = .ok (.if_icmp .ge 13, 3) := by decide +kernel
theorem dJ7_fill_d0a16_12 : decode cJ7_fill_d0a16 12 = .ok (.aload_n 0, 1) := by decide +kernel
theorem dJ7_fill_d0a16_13 : decode cJ7_fill_d0a16 13 = .ok (.iload_n 3, 1) := by decide +kernel
theorem dJ7_fill_d0a16_14 : decode cJ7_fill_d0a16 14 = .ok (.lload_n 1, 1) := by decide +kernel
theorem dJ7_fill_d0a16_15 : decode cJ7_fill_d0a16 15 = .ok (.lastore, 1) := by decide +kernel
theorem dJ7_fill_d0a16_16 : decode cJ7_fill_d0a16 16 = .ok (.iinc 3 1, 3) := by decide +kernel
theorem dJ7_fill_d0a16_19 : decode cJ7_fill_d0a16 19 = .ok (.goto (-13), 3) := by decide +kernel
theorem dJ7_fill_d0a16_22 : decode cJ7_fill_d0a16 22 = .ok (.return_, 1) := by decide +kernel
def w_c_fillJ : List Cond := .code yJ7_fill_d0a16 cJ7_fill_d0a16 5 none :: ([])
set_option maxHeartbeats 4000000 in
set_option maxRecDepth 100000 in
theorem c_fillJ (l : Launch) (dC : Nat → ClassId) (dI : Nat → Nat → Nat) (cJ : ClassId) (a0 : Nat) (n : Nat) (f : Nat → Int64) (v : Int64) (hn : n < 2147483648) (sz : Nat) : Met l yJ7_fill_d0a16 w_c_fillJ ({ frames := 0, cells := 0, slots := 0, locals := 0 }) (va_Pc [.ref a0, .long v] (fun U => U.heap.size = sz ∧ va_P (dC, dI) vwCl [(a0, .inl (cJ, n, .inr (.inl (f))))] U.heap ∧ va_K (dC, dI) vwCl [(cJ, .long)] U ∧ va_D (fun _ => True) [(a0, .inl (cJ, n, .inr (.inl (f))))])) (va_Qv (fun _ : Unit => True) (fun (_ : Unit) (t : State) => va_P (dC, dI) vwCl [(a0, .inl (cJ, n, .inr (.inl (fun _ => v))))] t.heap ∧ va_K (dC, dI) vwCl [(cJ, .long)] t ∧ va_D (va_A [(a0, .inl (cJ, n, .inr (.inl (f))))] sz) [(a0, .inl (cJ, n, .inr (.inl (fun _ => v))))]) (va_A [(a0, .inl (cJ, n, .inr (.inl (f))))] sz)) 0 0 (va_A [(a0, .inl (cJ, n, .inr (.inl (f))))] sz) := by
  refine Met.ofW (cc := cJ7_fill_d0a16) (maxL := 5) (ret := none) (by decide) rfl ?_
  intro p e s m args below meth c s₁ B hml hv
  obtain ⟨rfl, hsz, hP, hK, hD0⟩ := hv
  have hx := B.exec
  have hb := B.bytes
  have hr := B.returns
  have hts := atoms_spec (ws := w_c_fillJ) B.pre
  have hown : s.vm.findClass RJ7 = some m.cls := findClass_of_methodNamed B.named
  have hlocks := B.notSynchronized
  subst hsz
  have hD := hD0.self (sz := s.heap.size)
  generalize hAe : va_A [(a0, .inl (cJ, n, .inr (.inl (f))))] s.heap.size = A at hD ⊢
  have hA : ∀ q : Nat, s.heap.size ≤ q → A q := fun q h => by rw [← hAe]; exact Or.inr h
  have hS : va_S A s.heap s.heap [] := va_S.rf
  have hP : va_P (dC, dI) vwCl [(a0, .inl (cJ, n, .inr (.inl (f))))] s.heap := hP
  have hl := lv_entry ([.ref a0, .long v]) (n := 5) (Nat.le_of_ble_eq_true rfl)
  rw [lg_entry_eq]
  generalize (lg_sl ([.ref a0, .long v]) ++ List.replicate (5 - (lg_sl ([.ref a0, .long v])).length) Slot.unset).toArray = ls at hl ⊢
  have hl : lv_has ls 5 [(0, .ref a0), (1, .long v)] := hl
  refine lv_iconst (v := 0) hx hb dJ7_fill_d0a16_0 (by decide) ?_
  refine lv_istore_n (lv' := [(3, .int 0), (0, .ref a0), (1, .long v)]) hx hb dJ7_fill_d0a16_1 rfl hl (by decide) rfl (fun ls hl => ?_)
  refine lv_aload_n hx hb dJ7_fill_d0a16_2 rfl (lv_at hl 1 rfl) ?_
  refine va_alen hx hb hK hP 0 0 rfl rfl (v := (Int32.ofNat n)) rfl dJ7_fill_d0a16_3 ?_
  refine lv_istore (lv' := [(4, .int (Int32.ofNat n)), (3, .int 0), (0, .ref a0), (1, .long v)]) hx hb dJ7_fill_d0a16_4 hl (by decide) rfl (fun ls hl => ?_)
  have hfe : (f : Nat → Int64) = (fun j => if j < 0 then v else f j) := (by funext j; simp)
  rw [hfe] at hP hD
  clear hfe
  have hP : va_P (dC, dI) vwCl [(a0, .inl (cJ, n, .inr (.inl (fun j => if j < 0 then v else f j))))] s.heap := hP
  have hD : va_D A [(a0, .inl (cJ, n, .inr (.inl (fun j => if j < 0 then v else f j))))] := hD
  have hl : lv_has ls 5 [(4, .int (Int32.ofNat n)), (3, .int 0), (0, .ref a0), (1, .long v)] := hl
  refine wx_loopM (σ := Nat) (fun x => n - x) (fun x H locs ls => x ≤ n ∧ va_P (dC, dI) vwCl [(a0, .inl (cJ, n, .inr (.inl (fun j => if j < x then v else f j))))] H ∧ va_D A [(a0, .inl (cJ, n, .inr (.inl (fun j => if j < x then v else f j))))] ∧ va_S A s.heap H locs ∧ lv_has ls 5 [(4, .int (Int32.ofNat n)), (0, .ref a0), (1, .long v), (3, .int (nI x))]) 0 ⟨Nat.zero_le _, hP, hD, hS, lv_sub hl [0, 2, 3, 1] rfl⟩ (fun x H locs ls hI ih6 => ?_)
  obtain ⟨i, rfl⟩ : ∃ z, z = x := ⟨_, rfl⟩
  obtain ⟨hi, hP, hD, hS, hl⟩ := hI
  refine lv_iload_n hx hb dJ7_fill_d0a16_6 rfl (lv_at hl 3 rfl) ?_
  refine lv_iload hx hb dJ7_fill_d0a16_7 (lv_at hl 0 rfl) ?_
  refine lv_icmp_ge (tgt := 22) hx hb dJ7_fill_d0a16_9 (by decide) (fun c_1 => ?_) (fun c_1 => ?_)
  · have i_1 : (Int32.ofNat n).toInt ≤ (nI i).toInt := Int32.le_iff_toInt_le.mp c_1
    have hin9 : i = n := by have := (nI_leI (by omega) (by omega)).mp c_1; omega
    have hP := wx_rowJ (g := fun _ => v) hP (k := 0) rfl (fun j hj => by subst hin9; simp [hj])
    have hD := wx_setD (e' := .inl (cJ, n, .inr (.inl (fun _ => v)))) hD (k := 0) rfl
    have hP : va_P (dC, dI) vwCl [(a0, .inl (cJ, n, .inr (.inl (fun _ => v))))] H := hP
    have hD : va_D A [(a0, .inl (cJ, n, .inr (.inl (fun _ => v))))] := hD
    have hP9 := hP.sub (ws' := [(a0, .inl (cJ, n, .inr (.inl (fun _ => v))))]) [0] rfl
    have hD9 := hD.sub (ws' := [(a0, .inl (cJ, n, .inr (.inl (fun _ => v))))]) [0] (by decide) rfl
    exact W.vret hx hb hr (fun t ht hW => ⟨⟨(), rfl, trivial, by rw [ht]; exact hP9, va_K.moved hW.alike hK, hD9⟩, hS.F ht⟩) hS.2.2 dJ7_fill_d0a16_22
  · have i_1 : (nI i).toInt < (Int32.ofNat n).toInt := Int32.lt_iff_toInt_lt.mp (Int32.not_le.mp c_1)
    have hlt9 : i < n := Nat.not_le.mp (mt (fun h : n ≤ i => (nI_leI (by omega) (by omega)).mpr h) c_1)
    refine lv_aload_n hx hb dJ7_fill_d0a16_12 rfl (lv_at hl 1 rfl) ?_
    refine lv_iload_n hx hb dJ7_fill_d0a16_13 rfl (lv_at hl 3 rfl) ?_
    refine lv_lload_n hx hb dJ7_fill_d0a16_14 rfl (lv_at hl 2 rfl) ?_
    refine va_last hx hb hK hP hD hS 0 0 rfl rfl (i := (nI i)) (x := v) (vp_in_nI hlt9 hn) dJ7_fill_d0a16_15 (fun H locs hP hD hS => ?_)
    have hP : va_P (dC, dI) vwCl [(a0, .inl (cJ, n, .inr (.inl (vp_updL (fun j => if j < i then v else f j) ((nI i) : Int32).toNatClampNeg v))))] H := hP
    have hD : va_D A [(a0, .inl (cJ, n, .inr (.inl (vp_updL (fun j => if j < i then v else f j) ((nI i) : Int32).toNatClampNeg v))))] := hD
    obtain ⟨x_2, ex_2⟩ : ∃ y : Int32, y = (nI i) + 1 := ⟨_, rfl⟩
    refine lv_iinc (v := x_2) (lv' := [(3, .int x_2), (4, .int (Int32.ofNat n)), (0, .ref a0), (1, .long v)]) hx hb dJ7_fill_d0a16_16 hl (k := 3) rfl (by rw [ex_2]; rfl) (by decide) rfl (fun ls hl => ?_)
    refine lv_goto (tgt := 6) hx hb dJ7_fill_d0a16_19 (by decide) ?_
    have hfe : (vp_updL (fun j => if j < i then v else f j) ((nI i) : Int32).toNatClampNeg v : Nat → Int64) = (fun j => if j < i + 1 then v else f j) := (by funext j; rw [nI_clamp (by omega)]; by_cases h1 : j = i <;> by_cases h2 : j < i <;> simp [vp_updL, h1, h2] <;> (try omega))
    rw [hfe] at hP hD
    clear hfe
    have hP : va_P (dC, dI) vwCl [(a0, .inl (cJ, n, .inr (.inl (fun j => if j < i + 1 then v else f j))))] H := hP
    have hD : va_D A [(a0, .inl (cJ, n, .inr (.inl (fun j => if j < i + 1 then v else f j))))] := hD
    have hx9 : x_2 = nI (i + 1) := by rw [ex_2]; exact nI_1 i
    rw [hx9] at hl
    exact ih6 (i + 1) _ _ _ (by show n - (i + 1) < n - i; omega) ⟨by omega, hP.sub [0] rfl, hD.sub [0] (by decide) rfl, hS, lv_sub hl [1, 2, 3, 0] rfl⟩
