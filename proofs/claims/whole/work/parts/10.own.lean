section WX
variable {p : Program} {l : Launch} {e : Env} {R : Room} {s : State} {m : MethodId} {args : Array Value} {below : List Frame} {meth : Method} {c : Code} {H : Heap} {locs : List Loc} {cells slots : Nat} {Q : State → Prop}
variable {cc : ByteArray} {pc : Nat} {ls : Array Slot} {rest : List Value} {D : va_G} {cl : List vw_C} {A : Nat → Prop} {tys : List (ClassId × FieldType)} {ws : va_W} {H0 : Heap}
theorem wx_ti {x y : Int32} (h : x = y) (k : W p l e R s m args below meth c H locs cells slots Q (F0 m pc ls (.int y :: rest))) : W p l e R s m args below meth c H locs cells slots Q (F0 m pc ls (.int x :: rest)) := by
  rw [h]; exact k
theorem wx_tl {x y : Int64} (h : x = y) (k : W p l e R s m args below meth c H locs cells slots Q (F0 m pc ls (.long y :: rest))) : W p l e R s m args below meth c H locs cells slots Q (F0 m pc ls (.long x :: rest)) := by
  rw [h]; exact k
theorem wx_tv {x y : Value} (h : x = y) (k : W p l e R s m args below meth c H locs cells slots Q (F0 m pc ls (y :: rest))) : W p l e R s m args below meth c H locs cells slots Q (F0 m pc ls (x :: rest)) := by
  rw [h]; exact k
theorem wx_fs {N : Nat} {ty : Nat → FieldType} {fs : List Value} (h : (List.range N).all (fun j => decide (defaultValue (ty j) = vp_V fs j)) = true) : ∀ j, j < N → defaultValue (ty j) = vp_V fs j := fun j hj => by
  have := List.all_eq_true.mp h j (List.mem_range.mpr hj)
  exact of_decide_eq_true this
/-- a new row of a primitive type whose class the world knows -/
theorem wx_newP {ty : FieldType} {cT : ClassId} {atype : ArrayType} {a0 : vp_A} (hexec : p.tables.exec = Jvm.exec) (hb : c.code = cc) (hty : newarray.typeOf atype = ty) (harr : (Cond.arrayClass (newarray.typeOf atype)).before args s = true) (hra : ∀ (U : State) (cA : ClassId), va_RA U cA ty → U.vm.findClass ("[" ++ ty.toString) = some cA) (ha : ∀ cA : ClassId, vp_cell cA a0 = arrV cA a0.1 (fun _ => defaultValue ty)) (hK : va_K D cl tys s) (hP : va_P D cl ws H) (hD : va_D A ws) (hS : va_S A H0 H locs) (hA : ∀ q, H0.size ≤ q → A q) (t0 : Nat) (ht : tys[t0]? = some (cT, ty)) {n : Int32} (hn : ¬ n < 0) (hN : n.toNatClampNeg = a0.1) (hbytes : a0.1 * componentBytes ty ≤ 536870912) (hcells : cells + 1 ≤ R.cells) (hslots : slots + a0.1 ≤ R.slots) (hdg : decode cc pc = .ok (.newarray atype, 2))
    (kk : ∀ (q : Nat) (H1 : Heap), va_P D cl (ws ++ [(q, .inl (cT, a0))]) H1 → va_D A (ws ++ [(q, .inl (cT, a0))]) → va_S A H0 H1 locs → W p l e R s m args below meth c H1 locs (cells + 1) (slots + a0.1) Q (F0 m (pc + 2) ls (.ref q :: rest))) : W p l e R s m args below meth c H locs cells slots Q (F0 m pc ls (.int n :: rest)) := by
  refine va_newa (atype := atype) hexec hb harr hty hK hP hD hS hA (a0 := a0) ha hn hN hbytes hcells hslots hdg (fun q cA H1 hK1 hP1 hD1 hS1 => ?_)
  have h1 := hra s cA (hK1.2 tys.length (cA, ty) (by simp)).2
  have h2 := hra s cT (hK.2 t0 _ ht).2
  have h3 : some cA = some cT := h1.symm.trans h2
  cases h3
  exact kk q H1 hP1 hD1 hS1
theorem wx_newI {cI : ClassId} (hexec : p.tables.exec = Jvm.exec) (hb : c.code = cc) (harr : (Cond.arrayClass .int).before args s = true) (hK : va_K D cl tys s) (hP : va_P D cl ws H) (hD : va_D A ws) (hS : va_S A H0 H locs) (hA : ∀ q, H0.size ≤ q → A q) (t0 : Nat) (ht : tys[t0]? = some (cI, .int)) {n : Int32} {N' : Nat} (hn : ¬ n < 0) (hN : n.toNatClampNeg = N') (hbytes : N' * 4 ≤ 536870912) (hcells : cells + 1 ≤ R.cells) (hslots : slots + N' ≤ R.slots) (hdg : decode cc pc = .ok (.newarray .int, 2))
    (kk : ∀ (q : Nat) (H1 : Heap), va_P D cl (ws ++ [(q, .inl (cI, N', .inl (fun _ => 0)))]) H1 → va_D A (ws ++ [(q, .inl (cI, N', .inl (fun _ => 0)))]) → va_S A H0 H1 locs → W p l e R s m args below meth c H1 locs (cells + 1) (slots + N') Q (F0 m (pc + 2) ls (.ref q :: rest))) : W p l e R s m args below meth c H locs cells slots Q (F0 m pc ls (.int n :: rest)) :=
  wx_newP (ty := .int) (atype := .int) (a0 := (N', .inl (fun _ => 0))) hexec hb rfl harr (fun _ _ h => h) (fun _ => rfl) hK hP hD hS hA t0 ht hn hN hbytes hcells hslots hdg kk
theorem wx_newB {cB : ClassId} (hexec : p.tables.exec = Jvm.exec) (hb : c.code = cc) (harr : (Cond.arrayClass .byte).before args s = true) (hK : va_K D cl tys s) (hP : va_P D cl ws H) (hD : va_D A ws) (hS : va_S A H0 H locs) (hA : ∀ q, H0.size ≤ q → A q) (t0 : Nat) (ht : tys[t0]? = some (cB, .byte)) {n : Int32} {N' : Nat} (hn : ¬ n < 0) (hN : n.toNatClampNeg = N') (hbytes : N' * 1 ≤ 536870912) (hcells : cells + 1 ≤ R.cells) (hslots : slots + N' ≤ R.slots) (hdg : decode cc pc = .ok (.newarray .byte, 2))
    (kk : ∀ (q : Nat) (H1 : Heap), va_P D cl (ws ++ [(q, .inl (cB, N', .inl (fun _ => 0)))]) H1 → va_D A (ws ++ [(q, .inl (cB, N', .inl (fun _ => 0)))]) → va_S A H0 H1 locs → W p l e R s m args below meth c H1 locs (cells + 1) (slots + N') Q (F0 m (pc + 2) ls (.ref q :: rest))) : W p l e R s m args below meth c H locs cells slots Q (F0 m pc ls (.int n :: rest)) :=
  wx_newP (ty := .byte) (atype := .byte) (a0 := (N', .inl (fun _ => 0))) hexec hb rfl harr (fun _ _ h => h) (fun _ => rfl) hK hP hD hS hA t0 ht hn hN hbytes hcells hslots hdg kk
theorem wx_newZ {cZ : ClassId} (hexec : p.tables.exec = Jvm.exec) (hb : c.code = cc) (harr : (Cond.arrayClass .boolean).before args s = true) (hK : va_K D cl tys s) (hP : va_P D cl ws H) (hD : va_D A ws) (hS : va_S A H0 H locs) (hA : ∀ q, H0.size ≤ q → A q) (t0 : Nat) (ht : tys[t0]? = some (cZ, .boolean)) {n : Int32} {N' : Nat} (hn : ¬ n < 0) (hN : n.toNatClampNeg = N') (hbytes : N' * 1 ≤ 536870912) (hcells : cells + 1 ≤ R.cells) (hslots : slots + N' ≤ R.slots) (hdg : decode cc pc = .ok (.newarray .boolean, 2))
    (kk : ∀ (q : Nat) (H1 : Heap), va_P D cl (ws ++ [(q, .inl (cZ, N', .inl (fun _ => 0)))]) H1 → va_D A (ws ++ [(q, .inl (cZ, N', .inl (fun _ => 0)))]) → va_S A H0 H1 locs → W p l e R s m args below meth c H1 locs (cells + 1) (slots + N') Q (F0 m (pc + 2) ls (.ref q :: rest))) : W p l e R s m args below meth c H locs cells slots Q (F0 m pc ls (.int n :: rest)) :=
  wx_newP (ty := .boolean) (atype := .boolean) (a0 := (N', .inl (fun _ => 0))) hexec hb rfl harr (fun _ _ h => h) (fun _ => rfl) hK hP hD hS hA t0 ht hn hN hbytes hcells hslots hdg kk
theorem wx_newJ {cJ : ClassId} (hexec : p.tables.exec = Jvm.exec) (hb : c.code = cc) (harr : (Cond.arrayClass .long).before args s = true) (hK : va_K D cl tys s) (hP : va_P D cl ws H) (hD : va_D A ws) (hS : va_S A H0 H locs) (hA : ∀ q, H0.size ≤ q → A q) (t0 : Nat) (ht : tys[t0]? = some (cJ, .long)) {n : Int32} {N' : Nat} (hn : ¬ n < 0) (hN : n.toNatClampNeg = N') (hbytes : N' * 8 ≤ 536870912) (hcells : cells + 1 ≤ R.cells) (hslots : slots + N' ≤ R.slots) (hdg : decode cc pc = .ok (.newarray .long, 2))
    (kk : ∀ (q : Nat) (H1 : Heap), va_P D cl (ws ++ [(q, .inl (cJ, N', .inr (.inl (fun _ => 0))))]) H1 → va_D A (ws ++ [(q, .inl (cJ, N', .inr (.inl (fun _ => 0))))]) → va_S A H0 H1 locs → W p l e R s m args below meth c H1 locs (cells + 1) (slots + N') Q (F0 m (pc + 2) ls (.ref q :: rest))) : W p l e R s m args below meth c H locs cells slots Q (F0 m pc ls (.int n :: rest)) :=
  wx_newP (ty := .long) (atype := .long) (a0 := (N', .inr (.inl (fun _ => 0)))) hexec hb rfl harr (fun _ _ h => h) (fun _ => rfl) hK hP hD hS hA t0 ht hn hN hbytes hcells hslots hdg kk
/-- a new row of references to objects of a class whose row class the world knows -/
theorem wx_newQ {C : String} {cT : ClassId} {own : String} {index : Nat} (hexec : p.tables.exec = Jvm.exec) (hb : c.code = cc) (hown : s.vm.findClass own = some m.cls) (hclink : (Cond.classLink own index C).before args s = true) (hover : va_AO C s) (hK : va_K D cl tys s) (hP : va_P D cl ws H) (hD : va_D A ws) (hS : va_S A H0 H locs) (hA : ∀ q, H0.size ≤ q → A q) (t0 : Nat) (ht : tys[t0]? = some (cT, .object C)) {n : Int32} {N' : Nat} (hn : ¬ n < 0) (hN : n.toNatClampNeg = N') (hbytes : N' * 4 ≤ 536870912) (hcells : cells + 1 ≤ R.cells) (hslots : slots + N' ≤ R.slots) (hdg : decode cc pc = .ok (.anewarray index, 3))
    (kk : ∀ (q : Nat) (H1 : Heap), va_P D cl (ws ++ [(q, .inl (cT, N', .inr (.inr (.inr (.inr (fun _ => none))))))]) H1 → va_D A (ws ++ [(q, .inl (cT, N', .inr (.inr (.inr (.inr (fun _ => none))))))]) → va_S A H0 H1 locs → W p l e R s m args below meth c H1 locs (cells + 1) (slots + N') Q (F0 m (pc + 3) ls (.ref q :: rest))) : W p l e R s m args below meth c H locs cells slots Q (F0 m pc ls (.int n :: rest)) := by
  refine va_newq hexec hb hown hclink hover hK hP hD hS hA hn hN hbytes hcells hslots hdg (fun q cA H1 hK1 hP1 hD1 hS1 => ?_)
  obtain ⟨k1, p1, a1, a2, a3, a4⟩ := (hK1.2 tys.length (cA, .object C) (by simp)).2
  obtain ⟨k2, p2, b1, b2, b3, b4⟩ := (hK.2 t0 _ ht).2
  have h3 : some cA = some cT := a4.symm.trans b4
  cases h3
  exact kk q H1 hP1 hD1 hS1
/-- a reference out of a row of rows of longs -/
theorem wx_aldJ {a : Nat} (hexec : p.tables.exec = Jvm.exec) (hb : c.code = cc) (hK : va_K D cl tys s) (hP : va_P D cl ws H) (q0 t0 : Nat) {cA : ClassId} {n : Nat} {f : Nat → Option Nat} (ha : ws[q0]? = some (a, .inl (cA, n, .inr (.inr (.inr (.inr f)))))) (ht : tys[t0]? = some (cA, .array .long)) {i : Int32} (hin : vp_in i n) (hdg : decode cc pc = .ok (.aaload, 1))
    (kk : W p l e R s m args below meth c H locs cells slots Q (F0 m (pc + 1) ls (va_rf (f i.toNatClampNeg) :: rest))) : W p l e R s m args below meth c H locs cells slots Q (F0 m pc ls (.int i :: .ref a :: rest)) := by
  have hlt : i.toNatClampNeg < n := Nat.not_le.mp fun q => hin (Or.inr q)
  exact W.aald (v := va_rf (f i.toNatClampNeg)) (ty := .array .long) hexec hb (hP q0 _ ha) ((hK.2 t0 _ ht).1 n (fun j => va_rf (f j))) rfl (fun q => by cases q) (by show ¬ (i < 0 ∨ (arrV _ _ _).slots.size ≤ _); rw [arrV_size]; exact hin) (by show (arrV _ _ _).slots[_]? = _; rw [arrV_read _ _ hlt]) rfl rfl hdg kk
/-- a loop: a picture I of its head, and a measure that falls -/
theorem wx_loopM {σ : Type} {st : List Value} (μ : σ → Nat) (I : σ → Heap → List Loc → Array Slot → Prop) (x0 : σ) (h0 : I x0 H locs ls)
    (step : ∀ (x : σ) (H : Heap) (locs : List Loc) (ls : Array Slot), I x H locs ls → (∀ (y : σ) (H : Heap) (locs : List Loc) (ls : Array Slot), μ y < μ x → I y H locs ls → W p l e R s m args below meth c H locs cells slots Q (F0 m pc ls st)) → W p l e R s m args below meth c H locs cells slots Q (F0 m pc ls st)) :
    W p l e R s m args below meth c H locs cells slots Q (F0 m pc ls st) := by
  have key : ∀ (n : Nat) (x : σ) (H : Heap) (locs : List Loc) (ls : Array Slot), μ x < n → I x H locs ls → W p l e R s m args below meth c H locs cells slots Q (F0 m pc ls st) := by
    intro n
    induction n with
    | zero => intro x H locs ls h; exact absurd h (Nat.not_lt_zero _)
    | succ n ih => intro x H locs ls h hI; exact step x H locs ls hI (fun y H locs ls hy hI' => ih y H locs ls (by omega) hI')
  exact key (μ x0 + 1) x0 H locs ls (Nat.lt_succ_self _) h0
/-- the same row by another name of what it holds, as far as it reaches -/
theorem wx_arrE {cA : ClassId} {n : Nat} {f g : Nat → Value} (h : ∀ j, j < n → f j = g j) : arrV cA n f = arrV cA n g := by
  unfold arrV
  congr 2
  funext j
  exact h j.val j.isLt
theorem wx_setP {k : Nat} {a : Nat} {x y : ClassId × vp_A} (hP : va_P D cl ws H) (h : ws[k]? = some (a, .inl x)) (he : vp_cell x.1 x.2 = vp_cell y.1 y.2) : va_P D cl (ws.set k (a, .inl y)) H := by
  intro i q hq
  by_cases hi : k = i
  · subst hi
    have hl : k < ws.length := (List.getElem?_eq_some_iff.mp h).1
    rw [List.getElem?_set_self hl] at hq
    cases hq
    have := hP k _ h
    show H[a]? = some (vp_cell y.1 y.2)
    rw [← he]
    exact this
  · rw [List.getElem?_set_ne hi] at hq
    exact hP i q hq
theorem wx_setD {k : Nat} {a : Nat} {e e' : va_E} (hD : va_D A ws) (h : ws[k]? = some (a, e)) : va_D A (ws.set k (a, e')) := by
  have hf : ∀ (i : Nat) (q : Nat × va_E), (ws.set k (a, e'))[i]? = some q → ∃ q' : Nat × va_E, ws[i]? = some q' ∧ q'.1 = q.1 := by
    intro i q hq
    by_cases hi : k = i
    · subst hi
      have hl : k < ws.length := (List.getElem?_eq_some_iff.mp h).1
      rw [List.getElem?_set_self hl] at hq
      cases hq
      exact ⟨_, h, rfl⟩
    · rw [List.getElem?_set_ne hi] at hq
      exact ⟨q, hq, rfl⟩
  refine ⟨fun i j x y hx hy hxy => ?_, fun i x hx => ?_⟩
  · obtain ⟨x', h1, e1⟩ := hf i x hx
    obtain ⟨y', h2, e2⟩ := hf j y hy
    exact hD.1 i j x' y' h1 h2 (by rw [e1, e2, hxy])
  · obtain ⟨x', h1, e1⟩ := hf i x hx
    rw [← e1]
    exact hD.2 i x' h1
theorem wx_rowI {k a n : Nat} {cA : ClassId} {f g : Nat → Int32} (hP : va_P D cl ws H) (h : ws[k]? = some (a, .inl (cA, n, .inl f))) (he : ∀ j, j < n → f j = g j) : va_P D cl (ws.set k (a, .inl (cA, n, .inl g))) H :=
  wx_setP hP h (by show vp_cell cA (n, .inl f) = vp_cell cA (n, .inl g); rw [vp_cell_i, vp_cell_i]; exact wx_arrE (fun j hj => by rw [he j hj]))
theorem wx_rowJ {k a n : Nat} {cA : ClassId} {f g : Nat → Int64} (hP : va_P D cl ws H) (h : ws[k]? = some (a, .inl (cA, n, .inr (.inl f)))) (he : ∀ j, j < n → f j = g j) : va_P D cl (ws.set k (a, .inl (cA, n, .inr (.inl g)))) H :=
  wx_setP hP h (by show vp_cell cA (n, .inr (.inl f)) = vp_cell cA (n, .inr (.inl g)); rw [vp_cell_l, vp_cell_l]; exact wx_arrE (fun j hj => by rw [he j hj]))
theorem wx_rowQ {k a n : Nat} {cA : ClassId} {f g : Nat → Option Nat} (hP : va_P D cl ws H) (h : ws[k]? = some (a, .inl (cA, n, .inr (.inr (.inr (.inr f)))))) (he : ∀ j, j < n → f j = g j) : va_P D cl (ws.set k (a, .inl (cA, n, .inr (.inr (.inr (.inr g)))))) H :=
  wx_setP hP h (by show vp_cell cA (n, .inr (.inr (.inr (.inr f)))) = vp_cell cA (n, .inr (.inr (.inr (.inr g)))); rw [vp_cell_q, vp_cell_q]; exact wx_arrE (fun j hj => by rw [he j hj]))
theorem wx_b0 {r : Int32} {C : Prop} [Decidable C] (h : r = if C then 1 else 0) (h0 : r = 0) : ¬ C := fun hC => by rw [if_pos hC] at h; rw [h] at h0; exact absurd h0 (by decide)
theorem wx_b1 {r : Int32} {C : Prop} [Decidable C] (h : r = if C then 1 else 0) (h0 : ¬ r = 0) : C := Decidable.byContradiction fun hC => h0 (by rw [h, if_neg hC])
theorem wx_znar {r : Int32} {C : Prop} [Decidable C] (h : r = if C then 1 else 0) : narrow .boolean (.int r) = .int r := by
  by_cases hC : C
  · rw [if_pos hC] at h; rw [h]; rfl
  · rw [if_neg hC] at h; rw [h]; rfl
theorem wx_longer : ∀ t, t < 16 → ∀ b, b < 2 → ∃ k, k < 16 ∧ (8 ||| ((nI t * 2 + nI b) &&& 7)) = nI k := by decide +kernel
theorem wx_c4 {x : Int32} (h : 0 ≤ x.toInt ∧ x.toInt ≤ 3) : x = 0 ∨ x = 1 ∨ x = 2 ∨ x = 3 := by
  rcases (show x.toInt = 0 ∨ x.toInt = 1 ∨ x.toInt = 2 ∨ x.toInt = 3 by omega) with q | q | q | q
  · exact Or.inl (Int32.toInt_inj.mp q)
  · exact Or.inr (Or.inl (Int32.toInt_inj.mp q))
  · exact Or.inr (Or.inr (Or.inl (Int32.toInt_inj.mp q)))
  · exact Or.inr (Or.inr (Or.inr (Int32.toInt_inj.mp q)))
theorem wx_c3 {x : Int32} (h : 0 ≤ x.toInt ∧ x.toInt ≤ 2) : x = 0 ∨ x = 1 ∨ x = 2 := by
  rcases (show x.toInt = 0 ∨ x.toInt = 1 ∨ x.toInt = 2 by omega) with q | q | q
  · exact Or.inl (Int32.toInt_inj.mp q)
  · exact Or.inr (Or.inl (Int32.toInt_inj.mp q))
  · exact Or.inr (Or.inr (Int32.toInt_inj.mp q))
end WX
