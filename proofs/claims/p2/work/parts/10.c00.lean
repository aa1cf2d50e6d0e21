set_option maxHeartbeats 100000000 in
set_option maxRecDepth 100000 in
theorem cX7_init_1 (l : Launch) (dC : Nat → ClassId) (dI : Nat → Nat → Nat) (h0 : Nat) (sz : Nat) (x0 x1 x2 x3 x4 : Int32) : Met l yX7_init (Cond.code yX7_init cX7_init 1 none :: lw_G) ({ frames := 1, cells := 0, slots := 0, locals := 12 }) (va_Pc [.ref h0] (fun U => U.heap.size = sz ∧ va_P (dC, dI) vwCl [(h0, .inr (7, [.int x0, .int x1, .int x2, .int x3, .int x4]))] U.heap ∧ va_K (dC, dI) vwCl [] U ∧ va_D (fun _ => True) [(h0, .inr (7, [.int x0, .int x1, .int x2, .int x3, .int x4]))])) (va_Qv (fun (u : Unit) => True) (fun (u : Unit) (t : State) => va_P (dC, dI) vwCl [(h0, .inr (7, [.int x0, .int x1, .int x2, .int x3, .int x4]))] t.heap ∧ va_K (dC, dI) vwCl [] t ∧ va_D (va_A [(h0, .inr (7, [.int x0, .int x1, .int x2, .int x3, .int x4]))] sz) [(h0, .inr (7, [.int x0, .int x1, .int x2, .int x3, .int x4]))]) (va_A [(h0, .inr (7, [.int x0, .int x1, .int x2, .int x3, .int x4]))] sz)) 0 0 (va_A [(h0, .inr (7, [.int x0, .int x1, .int x2, .int x3, .int x4]))] sz) := by
  refine Met.ofW (cc := cX7_init) (maxL := 1) (ret := none) (by decide) rfl ?_
  intro p e s m args below meth c s₁ B hml hv
  obtain ⟨rfl, hsz, hP, hK, hD0⟩ := hv
  have hx := B.exec
  have hb := B.bytes
  have hr := B.returns
  have hts0 := atoms_spec (ws := Cond.code yX7_init cX7_init 1 none :: lw_G) B.pre
  have hG : ∀ w ∈ lw_G, w.before _ s = true := fun w h => hts0 w (List.mem_cons_of_mem _ h)
  have hown : s.vm.findClass RX7 = some m.cls := findClass_of_methodNamed B.named
  have hlocks := B.notSynchronized
  have hin : meth.name = "<init>" := (name_of_methodNamed B.named B.method).1
  subst hsz
  have hD := hD0.self (sz := s.heap.size)
  generalize hAe : va_A [(h0, .inr (7, [.int x0, .int x1, .int x2, .int x3, .int x4]))] s.heap.size = A at hD ⊢
  have hA : ∀ q : Nat, s.heap.size ≤ q → A q := fun q h => by rw [← hAe]; exact Or.inr h
  have hS : va_S A s.heap s.heap [] := va_S.rf
  have hP : va_P (dC, dI) vwCl [(h0, .inr (7, [.int x0, .int x1, .int x2, .int x3, .int x4]))] s.heap := hP
  have hl := lv_entry ([.ref h0]) (n := 1) (Nat.le_of_ble_eq_true rfl)
  rw [lg_entry_eq]
  generalize (lg_sl ([.ref h0]) ++ List.replicate (1 - (lg_sl ([.ref h0])).length) Slot.unset).toArray = ls at hl ⊢
  have hl : lv_has ls 1 [(0, .ref h0)] := hl
  generalize ([.ref h0] : List Value).toArray = ar at hG ⊢
  refine wq (fun Q hQ => ?_)
  refine lv_aload_n hx hb dX7_init_0 rfl (lv_at hl 0 rfl) ?_
  refine W.objInit hx hb hown (hG _ wd_46) (hG _ wd_32) (hG _ wd_33) rfl (by rw [hml]; exact hl.1) rfl dX7_init_1 (Nat.le_of_ble_eq_true rfl) (Nat.le_of_ble_eq_true rfl) ?_
  refine W.eq (g2 := F0 m 4 ls []) rfl ?_
  rw [hQ]
  obtain ⟨hP9, hD9⟩ := nv_sub2 (wc := [(h0, .inr (7, [.int x0, .int x1, .int x2, .int x3, .int x4]))]) hP hD [0] (by decide) rfl
  have hK9 := hK.sub (tys' := []) [] rfl
  exact W.vret hx hb hr (fun t ht hW => ⟨⟨(), rfl, trivial, by rw [ht]; exact hP9, va_K.moved hW.alike hK9, hD9⟩, hS.F ht⟩) hS.2.2 dX7_init_4
set_option maxHeartbeats 100000000 in
set_option maxRecDepth 100000 in
theorem cX5_init_1 (l : Launch) (dC : Nat → ClassId) (dI : Nat → Nat → Nat) (h0 : Nat) (sz : Nat) (x0 x1 x2 x3 x4 x5 : Int32) : Met l yX5_init (Cond.code yX5_init cX5_init 1 none :: lw_G) ({ frames := 1, cells := 0, slots := 0, locals := 12 }) (va_Pc [.ref h0] (fun U => U.heap.size = sz ∧ va_P (dC, dI) vwCl [(h0, .inr (5, [.int x0, .int x1, .int x2, .int x3, .int x4, .int x5]))] U.heap ∧ va_K (dC, dI) vwCl [] U ∧ va_D (fun _ => True) [(h0, .inr (5, [.int x0, .int x1, .int x2, .int x3, .int x4, .int x5]))])) (va_Qv (fun (u : Unit) => True) (fun (u : Unit) (t : State) => va_P (dC, dI) vwCl [(h0, .inr (5, [.int 304, .int x1, .int x2, .int x3, .int x4, .int x5]))] t.heap ∧ va_K (dC, dI) vwCl [] t ∧ va_D (va_A [(h0, .inr (5, [.int x0, .int x1, .int x2, .int x3, .int x4, .int x5]))] sz) [(h0, .inr (5, [.int 304, .int x1, .int x2, .int x3, .int x4, .int x5]))]) (va_A [(h0, .inr (5, [.int x0, .int x1, .int x2, .int x3, .int x4, .int x5]))] sz)) 0 0 (va_A [(h0, .inr (5, [.int x0, .int x1, .int x2, .int x3, .int x4, .int x5]))] sz) := by
  refine Met.ofW (cc := cX5_init) (maxL := 1) (ret := none) (by decide) rfl ?_
  intro p e s m args below meth c s₁ B hml hv
  obtain ⟨rfl, hsz, hP, hK, hD0⟩ := hv
  have hx := B.exec
  have hb := B.bytes
  have hr := B.returns
  have hts0 := atoms_spec (ws := Cond.code yX5_init cX5_init 1 none :: lw_G) B.pre
  have hG : ∀ w ∈ lw_G, w.before _ s = true := fun w h => hts0 w (List.mem_cons_of_mem _ h)
  have hown : s.vm.findClass RX5 = some m.cls := findClass_of_methodNamed B.named
  have hlocks := B.notSynchronized
  have hin : meth.name = "<init>" := (name_of_methodNamed B.named B.method).1
  subst hsz
  have hD := hD0.self (sz := s.heap.size)
  generalize hAe : va_A [(h0, .inr (5, [.int x0, .int x1, .int x2, .int x3, .int x4, .int x5]))] s.heap.size = A at hD ⊢
  have hA : ∀ q : Nat, s.heap.size ≤ q → A q := fun q h => by rw [← hAe]; exact Or.inr h
  have hS : va_S A s.heap s.heap [] := va_S.rf
  have hP : va_P (dC, dI) vwCl [(h0, .inr (5, [.int x0, .int x1, .int x2, .int x3, .int x4, .int x5]))] s.heap := hP
  have hl := lv_entry ([.ref h0]) (n := 1) (Nat.le_of_ble_eq_true rfl)
  rw [lg_entry_eq]
  generalize (lg_sl ([.ref h0]) ++ List.replicate (1 - (lg_sl ([.ref h0])).length) Slot.unset).toArray = ls at hl ⊢
  have hl : lv_has ls 1 [(0, .ref h0)] := hl
  generalize ([.ref h0] : List Value).toArray = ar at hG ⊢
  refine wq (fun Q hQ => ?_)
  refine lv_aload_n hx hb dX5_init_0 rfl (lv_at hl 0 rfl) ?_
  refine W.objInit hx hb hown (hG _ wd_69) (hG _ wd_32) (hG _ wd_33) rfl (by rw [hml]; exact hl.1) rfl dX5_init_1 (Nat.le_of_ble_eq_true rfl) (Nat.le_of_ble_eq_true rfl) ?_
  refine W.eq (g2 := F0 m 4 ls []) rfl ?_
  refine lv_aload_n hx hb dX5_init_4 rfl (lv_at hl 0 rfl) ?_
  refine lv_sipush (v := 304) hx hb dX5_init_5 (by decide) ?_
  refine va_put (D := (dC, dI)) (ci := 5) (v := .int 304) (ty := .int) (C := RX5) (T := TX5) (N := 6) hx hb hG inGX5 tyX5 tyX5_ok nmX5 hown hK hP hD hS 0 rfl rfl 0 (by decide) (hG _ wd_70) (fun _ h9 => h9) rfl (by decide +kernel) rfl rfl (Nat.le_of_ble_eq_true rfl) dX5_init_8 (fun H locs hP hD hS => ?_)
  obtain ⟨hP, hD⟩ := nv_eq (ws' := [(h0, .inr (5, [.int 304, .int x1, .int x2, .int x3, .int x4, .int x5]))]) hP hD rfl
  rw [hQ]
  obtain ⟨hP9, hD9⟩ := nv_sub2 (wc := [(h0, .inr (5, [.int 304, .int x1, .int x2, .int x3, .int x4, .int x5]))]) hP hD [0] (by decide) rfl
  have hK9 := hK.sub (tys' := []) [] rfl
  exact W.vret hx hb hr (fun t ht hW => ⟨⟨(), rfl, trivial, by rw [ht]; exact hP9, va_K.moved hW.alike hK9, hD9⟩, hS.F ht⟩) hS.2.2 dX5_init_11
set_option maxHeartbeats 100000000 in
set_option maxRecDepth 100000 in
theorem cX9_init_1 (l : Launch) (dC : Nat → ClassId) (dI : Nat → Nat → Nat) (h0 : Nat) (sz : Nat) (x0 x1 x2 x3 : Int32) (ix3 : iv x3 0 1) : Met l yX9_init (Cond.code yX9_init cX9_init 1 none :: lw_G) ({ frames := 1, cells := 2, slots := 6, locals := 12 }) (va_Pc [.ref h0] (fun U => U.heap.size = sz ∧ va_P (dC, dI) vwCl [(h0, .inr (9, [.null, .null, .int x0, .int x1, .int x2, .int x3]))] U.heap ∧ va_K (dC, dI) vwCl [] U ∧ va_D (fun _ => True) [(h0, .inr (9, [.null, .null, .int x0, .int x1, .int x2, .int x3]))])) (va_Qv (fun (u : Nat × Nat × ClassId × ClassId) => True) (fun (u : Nat × Nat × ClassId × ClassId) (t : State) => va_P (dC, dI) vwCl [(h0, .inr (9, [.ref u.1, .ref u.2.1, .int x0, .int x1, .int x2, .int x3])), (u.1, .inl (u.2.2.1, 3, .inl (fun _ => 0))), (u.2.1, .inl (u.2.2.2, 3, .inl (fun _ => 0)))] t.heap ∧ va_K (dC, dI) vwCl [(u.2.2.1, .int), (u.2.2.2, .int)] t ∧ va_D (va_A [(h0, .inr (9, [.null, .null, .int x0, .int x1, .int x2, .int x3]))] sz) [(h0, .inr (9, [.ref u.1, .ref u.2.1, .int x0, .int x1, .int x2, .int x3])), (u.1, .inl (u.2.2.1, 3, .inl (fun _ => 0))), (u.2.1, .inl (u.2.2.2, 3, .inl (fun _ => 0)))]) (va_A [(h0, .inr (9, [.null, .null, .int x0, .int x1, .int x2, .int x3]))] sz)) 2 6 (va_A [(h0, .inr (9, [.null, .null, .int x0, .int x1, .int x2, .int x3]))] sz) := by
  refine Met.ofW (cc := cX9_init) (maxL := 1) (ret := none) (by decide) rfl ?_
  intro p e s m args below meth c s₁ B hml hv
  obtain ⟨rfl, hsz, hP, hK, hD0⟩ := hv
  have hx := B.exec
  have hb := B.bytes
  have hr := B.returns
  have hts0 := atoms_spec (ws := Cond.code yX9_init cX9_init 1 none :: lw_G) B.pre
  have hG : ∀ w ∈ lw_G, w.before _ s = true := fun w h => hts0 w (List.mem_cons_of_mem _ h)
  have hown : s.vm.findClass RX9 = some m.cls := findClass_of_methodNamed B.named
  have hlocks := B.notSynchronized
  have hin : meth.name = "<init>" := (name_of_methodNamed B.named B.method).1
  subst hsz
  have hD := hD0.self (sz := s.heap.size)
  generalize hAe : va_A [(h0, .inr (9, [.null, .null, .int x0, .int x1, .int x2, .int x3]))] s.heap.size = A at hD ⊢
  have hA : ∀ q : Nat, s.heap.size ≤ q → A q := fun q h => by rw [← hAe]; exact Or.inr h
  have hS : va_S A s.heap s.heap [] := va_S.rf
  have hP : va_P (dC, dI) vwCl [(h0, .inr (9, [.null, .null, .int x0, .int x1, .int x2, .int x3]))] s.heap := hP
  have hl := lv_entry ([.ref h0]) (n := 1) (Nat.le_of_ble_eq_true rfl)
  rw [lg_entry_eq]
  generalize (lg_sl ([.ref h0]) ++ List.replicate (1 - (lg_sl ([.ref h0])).length) Slot.unset).toArray = ls at hl ⊢
  have hl : lv_has ls 1 [(0, .ref h0)] := hl
  generalize ([.ref h0] : List Value).toArray = ar at hG ⊢
  refine wq (fun Q hQ => ?_)
  refine lv_aload_n hx hb dX9_init_0 rfl (lv_at hl 0 rfl) ?_
  refine W.objInit hx hb hown (hG _ wd_94) (hG _ wd_32) (hG _ wd_33) rfl (by rw [hml]; exact hl.1) rfl dX9_init_1 (Nat.le_of_ble_eq_true rfl) (Nat.le_of_ble_eq_true rfl) ?_
  refine W.eq (g2 := F0 m 4 ls []) rfl ?_
  refine lv_aload_n hx hb dX9_init_4 rfl (lv_at hl 0 rfl) ?_
  refine lv_iconst (v := 3) hx hb dX9_init_5 (by decide) ?_
  refine va_newa (atype := .int) (ty := .int) (a0 := (3, (.inl (fun _ => 0)))) hx hb (hG _ wd_63) rfl hK hP hD hS hA (fun _ => rfl) (by decide) (by decide) (by decide) (by decide) (by decide) dX9_init_6 (fun q1 ny2 H hK hP hD hS => ?_)
  obtain ⟨hP, hD⟩ := nv_eq (ws' := [(h0, .inr (9, [.null, .null, .int x0, .int x1, .int x2, .int x3])), (q1, .inl (ny2, 3, .inl (fun _ => 0)))]) hP hD rfl
  have hK : va_K (dC, dI) vwCl [(ny2, .int)] s := hK
  refine W.widen (k := 1) (n := 3) (by decide) (by decide) ?_
  refine va_putF (D := (dC, dI)) (ci := 9) (v := .ref q1) (ty := .array .int) (C := RX9) (T := TX9) (N := 6) hx hb hG inGX9 tyX9 tyX9_ok nmX9 hown hK hP hD hS 0 rfl rfl 0 (by decide) (hG _ wd_95) (fun _ h9 => h9) rfl hin rfl (by decide +kernel) rfl rfl (Nat.le_of_ble_eq_true rfl) dX9_init_8 (fun H locs hP hD hS => ?_)
  obtain ⟨hP, hD⟩ := nv_eq (ws' := [(h0, .inr (9, [.ref q1, .null, .int x0, .int x1, .int x2, .int x3])), (q1, .inl (ny2, 3, .inl (fun _ => 0)))]) hP hD rfl
  refine lv_aload_n hx hb dX9_init_11 rfl (lv_at hl 0 rfl) ?_
  refine lv_iconst (v := 3) hx hb dX9_init_12 (by decide) ?_
  refine va_newa (atype := .int) (ty := .int) (a0 := (3, (.inl (fun _ => 0)))) hx hb (hG _ wd_63) rfl hK hP hD hS hA (fun _ => rfl) (by decide) (by decide) (by decide) (by decide) (by decide) dX9_init_13 (fun q3 ny4 H hK hP hD hS => ?_)
  obtain ⟨hP, hD⟩ := nv_eq (ws' := [(h0, .inr (9, [.ref q1, .null, .int x0, .int x1, .int x2, .int x3])), (q1, .inl (ny2, 3, .inl (fun _ => 0))), (q3, .inl (ny4, 3, .inl (fun _ => 0)))]) hP hD rfl
  have hK : va_K (dC, dI) vwCl [(ny2, .int), (ny4, .int)] s := hK
  refine W.widen (k := 2) (n := 6) (by decide) (by decide) ?_
  refine va_putF (D := (dC, dI)) (ci := 9) (v := .ref q3) (ty := .array .int) (C := RX9) (T := TX9) (N := 6) hx hb hG inGX9 tyX9 tyX9_ok nmX9 hown hK hP hD hS 0 rfl rfl 1 (by decide) (hG _ wd_96) (fun _ h9 => h9) rfl hin rfl (by decide +kernel) rfl rfl (Nat.le_of_ble_eq_true rfl) dX9_init_15 (fun H locs hP hD hS => ?_)
  obtain ⟨hP, hD⟩ := nv_eq (ws' := [(h0, .inr (9, [.ref q1, .ref q3, .int x0, .int x1, .int x2, .int x3])), (q1, .inl (ny2, 3, .inl (fun _ => 0))), (q3, .inl (ny4, 3, .inl (fun _ => 0)))]) hP hD rfl
  rw [hQ]
  obtain ⟨hP9, hD9⟩ := nv_sub2 (wc := [(h0, .inr (9, [.ref q1, .ref q3, .int x0, .int x1, .int x2, .int x3])), (q1, .inl (ny2, 3, .inl (fun _ => 0))), (q3, .inl (ny4, 3, .inl (fun _ => 0)))]) hP hD [0, 1, 2] (by decide) rfl
  have hK9 := hK.sub (tys' := [(ny2, .int), (ny4, .int)]) [0, 1] rfl
  refine W.widen (k := 2) (n := 6) (by decide) (by decide) ?_
  exact W.vret hx hb hr (fun t ht hW => ⟨⟨(q1, q3, ny2, ny4), rfl, trivial, by rw [ht]; exact hP9, va_K.moved hW.alike hK9, hD9⟩, hS.F ht⟩) hS.2.2 dX9_init_18
set_option maxHeartbeats 100000000 in
set_option maxRecDepth 100000 in
theorem cX1_init_1 (l : Launch) (dC : Nat → ClassId) (dI : Nat → Nat → Nat) (adK adV : Nat → Nat) (h0 : Nat) (sz : Nat) : Met l yX1_init (Cond.code yX1_init cX1_init 1 none :: lw_G) ({ frames := 2, cells := 6, slots := 32791, locals := 32 }) (va_Pc [.ref h0] (fun U => U.heap.size = sz ∧ va_P (dC, dI) vwCl [(h0, .inr (1, [.null, .null, .null, .null]))] U.heap ∧ va_K (dC, dI) vwCl [] U ∧ va_D (fun _ => True) [(h0, .inr (1, [.null, .null, .null, .null]))] ∧ ev adK adV (va_A [(h0, .inr (1, [.null, .null, .null, .null]))] sz) U U.heap)) (va_Qv (fun (u : Nat × Nat × Nat × Nat × Nat × Nat × ClassId × ClassId × ClassId) => True) (fun (u : Nat × Nat × Nat × Nat × Nat × Nat × ClassId × ClassId × ClassId) (t : State) => va_P (dC, dI) vwCl [(h0, .inr (1, [.ref u.1, .ref u.2.1, .ref u.2.2.1, .ref u.2.2.2.1])), (u.1, .inl (u.2.2.2.2.2.2.1, 32768, .inl (fun _ => 0))), (u.2.1, .inr (7, [.int 0, .int 0, .int 0, .int 0, .int 0])), (u.2.2.1, .inr (5, [.int 304, .int 0, .int 0, .int 0, .int 0, .int 0])), (u.2.2.2.1, .inr (9, [.ref u.2.2.2.2.1, .ref u.2.2.2.2.2.1, .int 0, .int 0, .int 0, .int 0])), (u.2.2.2.2.1, .inl (u.2.2.2.2.2.2.2.1, 3, .inl (fun _ => 0))), (u.2.2.2.2.2.1, .inl (u.2.2.2.2.2.2.2.2, 3, .inl (fun _ => 0)))] t.heap ∧ va_K (dC, dI) vwCl [(u.2.2.2.2.2.2.1, .int), (u.2.2.2.2.2.2.2.1, .int), (u.2.2.2.2.2.2.2.2, .int)] t ∧ va_D (va_A [(h0, .inr (1, [.null, .null, .null, .null]))] sz) [(h0, .inr (1, [.ref u.1, .ref u.2.1, .ref u.2.2.1, .ref u.2.2.2.1])), (u.1, .inl (u.2.2.2.2.2.2.1, 32768, .inl (fun _ => 0))), (u.2.1, .inr (7, [.int 0, .int 0, .int 0, .int 0, .int 0])), (u.2.2.1, .inr (5, [.int 304, .int 0, .int 0, .int 0, .int 0, .int 0])), (u.2.2.2.1, .inr (9, [.ref u.2.2.2.2.1, .ref u.2.2.2.2.2.1, .int 0, .int 0, .int 0, .int 0])), (u.2.2.2.2.1, .inl (u.2.2.2.2.2.2.2.1, 3, .inl (fun _ => 0))), (u.2.2.2.2.2.1, .inl (u.2.2.2.2.2.2.2.2, 3, .inl (fun _ => 0)))]) (va_A [(h0, .inr (1, [.null, .null, .null, .null]))] sz)) 6 32791 (va_A [(h0, .inr (1, [.null, .null, .null, .null]))] sz) := by
  refine Met.ofW (cc := cX1_init) (maxL := 1) (ret := none) (by decide) rfl ?_
  intro p e s m args below meth c s₁ B hml hv
  obtain ⟨rfl, hsz, hP, hK, hD0, hE⟩ := hv
  have hx := B.exec
  have hb := B.bytes
  have hr := B.returns
  have hts0 := atoms_spec (ws := Cond.code yX1_init cX1_init 1 none :: lw_G) B.pre
  have hG : ∀ w ∈ lw_G, w.before _ s = true := fun w h => hts0 w (List.mem_cons_of_mem _ h)
  have hown : s.vm.findClass RX1 = some m.cls := findClass_of_methodNamed B.named
  have hlocks := B.notSynchronized
  have hin : meth.name = "<init>" := (name_of_methodNamed B.named B.method).1
  subst hsz
  have hD := hD0.self (sz := s.heap.size)
  generalize hAe : va_A [(h0, .inr (1, [.null, .null, .null, .null]))] s.heap.size = A at hD hE ⊢
  have hA : ∀ q : Nat, s.heap.size ≤ q → A q := fun q h => by rw [← hAe]; exact Or.inr h
  have hS : va_S A s.heap s.heap [] := va_S.rf
  have hP : va_P (dC, dI) vwCl [(h0, .inr (1, [.null, .null, .null, .null]))] s.heap := hP
  have hl := lv_entry ([.ref h0]) (n := 1) (Nat.le_of_ble_eq_true rfl)
  rw [lg_entry_eq]
  generalize (lg_sl ([.ref h0]) ++ List.replicate (1 - (lg_sl ([.ref h0])).length) Slot.unset).toArray = ls at hl ⊢
  have hl : lv_has ls 1 [(0, .ref h0)] := hl
  generalize ([.ref h0] : List Value).toArray = ar at hG ⊢
  refine wq (fun Q hQ => ?_)
  refine lv_aload_n hx hb dX1_init_0 rfl (lv_at hl 0 rfl) ?_
  refine W.objInit hx hb hown (hG _ wd_39) (hG _ wd_32) (hG _ wd_33) rfl (by rw [hml]; exact hl.1) rfl dX1_init_1 (Nat.le_of_ble_eq_true rfl) (Nat.le_of_ble_eq_true rfl) ?_
  refine W.eq (g2 := F0 m 4 ls []) rfl ?_
  refine lv_aload_n hx hb dX1_init_4 rfl (lv_at hl 0 rfl) ?_
  refine lv_ldc hx hb hown (hG _ wd_40) dX1_init_5 ?_
  refine va_newa (atype := .int) (ty := .int) (a0 := (32768, (.inl (fun _ => 0)))) hx hb (hG _ wd_63) rfl hK hP hD hS hA (fun _ => rfl) (by decide) (by decide) (by decide) (by decide) (by decide) dX1_init_7 (fun q1 ny2 H hK hP hD hS => ?_)
  obtain ⟨hP, hD⟩ := nv_eq (ws' := [(h0, .inr (1, [.null, .null, .null, .null])), (q1, .inl (ny2, 32768, .inl (fun _ => 0)))]) hP hD rfl
  have hK : va_K (dC, dI) vwCl [(ny2, .int)] s := hK
  refine W.widen (k := 1) (n := 32768) (by decide) (by decide) ?_
  refine va_putF (D := (dC, dI)) (ci := 1) (v := .ref q1) (ty := .array .int) (C := RX1) (T := TX1) (N := 4) hx hb hG inGX1 tyX1 tyX1_ok nmX1 hown hK hP hD hS 0 rfl rfl 0 (by decide) (hG _ wd_114) (fun _ h9 => h9) rfl hin rfl (by decide +kernel) rfl rfl (Nat.le_of_ble_eq_true rfl) dX1_init_9 (fun H locs hP hD hS => ?_)
  obtain ⟨hP, hD⟩ := nv_eq (ws' := [(h0, .inr (1, [.ref q1, .null, .null, .null])), (q1, .inl (ny2, 32768, .inl (fun _ => 0)))]) hP hD rfl
  refine lv_aload_n hx hb dX1_init_12 rfl (lv_at hl 0 rfl) ?_
  refine va_new (ci := 7) (fs := [.int 0, .int 0, .int 0, .int 0, .int 0]) (C := RX7) (T := TX7) (N := 5) hx hb hG inGX7 tyX7 tyX7_ok hown (hG _ wd_41) (hG _ wd_42) (hG _ wd_3) hK hP hD hS hA rfl (fun j hj => by rcases (show j = 0 ∨ j = 1 ∨ j = 2 ∨ j = 3 ∨ j = 4 by omega) with rfl | rfl | rfl | rfl | rfl <;> rfl) (by decide) (by decide) dX1_init_13 (fun q3 H hP hD hS => ?_)
  obtain ⟨hP, hD⟩ := nv_eq (ws' := [(h0, .inr (1, [.ref q1, .null, .null, .null])), (q1, .inl (ny2, 32768, .inl (fun _ => 0))), (q3, .inr (7, [.int 0, .int 0, .int 0, .int 0, .int 0]))]) hP hD rfl
  refine W.widen (k := 2) (n := 32773) (by decide) (by decide) ?_
  refine lv_dup hx hb dX1_init_16 rfl ?_
  obtain ⟨hPc, hDc, hFc⟩ := nv_sub3 (wc := [(q3, .inr (7, [.int 0, .int 0, .int 0, .int 0, .int 0]))]) hP hD hS hA [2] (by decide) rfl
  have hKc := hK.sub (tys' := []) [] rfl
  refine va_callv (va_runIN (As := []) (rest := [.ref q3, .ref h0]) ⟨hx, hb, hml, hown, hG⟩ (cX7_init_1 l dC dI q3 H.size 0 0 0 0 0) ⟨va_cnB 0 hG (gC wd_45) rfl rfl rfl (evW1 hE) (hG _ wd_3) (by decide +kernel) ⟨Nat.le_of_ble_eq_true rfl, Nat.le_of_ble_eq_true rfl⟩, rfl, (hG _ wd_44)⟩ ⟨fun a U g mk q => by obtain ⟨q0, q1, qP, qK, qD⟩ := q; exact ⟨q0, q1, qP, va_K.moved (u := U) (U := U.calling g mk a) (Vm.Alike.refl U.vm) qK, qD⟩, fun U hU hW => ⟨rfl, by rw [hU], by rw [hU]; exact hPc, va_K.moved hW.alike hKc, hDc.weaken (fun _ _ _ _ => trivial)⟩⟩ rfl rfl hl.1 rfl (lv_room (Nat.le_of_ble_eq_true rfl)) dX1_init_17 ⟨by decide, by decide⟩) hS (fun q _ h => hFc q h) hFc (fun u5 t H1 locs ht hvm hw hB hz1 hk1 hS => ?_)
  obtain ⟨hP1, hK1, hD1⟩ := hB
  rw [ht] at hP1
  have hK1 := va_K.moved hvm.symm hK1
  obtain ⟨hP, hD⟩ := nv_join (wf := [(h0, .inr (1, [.ref q1, .null, .null, .null])), (q1, .inl (ny2, 32768, .inl (fun _ => 0))), (q3, .inr (7, [.int 0, .int 0, .int 0, .int 0, .int 0]))]) hP hD [2] [0, 1] rfl rfl (by decide) (by decide) hk1 hFc hP1 hD1 rfl
  have hK := (hK.sub (tys' := [(ny2, .int)]) [0] rfl).app hK1
  generalize H1 = H at hP hS ⊢
  have hK : va_K (dC, dI) vwCl [(ny2, .int)] s := hK
  refine va_putF (D := (dC, dI)) (ci := 1) (v := .ref q3) (ty := .object "NapMachine$Port") (C := RX1) (T := TX1) (N := 4) hx hb hG inGX1 tyX1 tyX1_ok nmX1 hown hK hP hD hS 0 rfl rfl 1 (by decide) (hG _ wd_115) (fun _ h9 => h9) rfl hin rfl (by decide +kernel) rfl rfl (Nat.le_of_ble_eq_true rfl) dX1_init_20 (fun H locs hP hD hS => ?_)
  obtain ⟨hP, hD⟩ := nv_eq (ws' := [(h0, .inr (1, [.ref q1, .ref q3, .null, .null])), (q1, .inl (ny2, 32768, .inl (fun _ => 0))), (q3, .inr (7, [.int 0, .int 0, .int 0, .int 0, .int 0]))]) hP hD rfl
  refine lv_aload_n hx hb dX1_init_23 rfl (lv_at hl 0 rfl) ?_
  refine va_new (ci := 5) (fs := [.int 0, .int 0, .int 0, .int 0, .int 0, .int 0]) (C := RX5) (T := TX5) (N := 6) hx hb hG inGX5 tyX5 tyX5_ok hown (hG _ wd_64) (hG _ wd_65) (hG _ wd_4) hK hP hD hS hA rfl (fun j hj => by rcases (show j = 0 ∨ j = 1 ∨ j = 2 ∨ j = 3 ∨ j = 4 ∨ j = 5 by omega) with rfl | rfl | rfl | rfl | rfl | rfl <;> rfl) (by decide) (by decide) dX1_init_24 (fun q6 H hP hD hS => ?_)
  obtain ⟨hP, hD⟩ := nv_eq (ws' := [(h0, .inr (1, [.ref q1, .ref q3, .null, .null])), (q1, .inl (ny2, 32768, .inl (fun _ => 0))), (q3, .inr (7, [.int 0, .int 0, .int 0, .int 0, .int 0])), (q6, .inr (5, [.int 0, .int 0, .int 0, .int 0, .int 0, .int 0]))]) hP hD rfl
  refine W.widen (k := 3) (n := 32779) (by decide) (by decide) ?_
  refine lv_dup hx hb dX1_init_27 rfl ?_
  obtain ⟨hPc, hDc, hFc⟩ := nv_sub3 (wc := [(q6, .inr (5, [.int 0, .int 0, .int 0, .int 0, .int 0, .int 0]))]) hP hD hS hA [3] (by decide) rfl
  have hKc := hK.sub (tys' := []) [] rfl
  refine va_callv (va_runIN (As := []) (rest := [.ref q6, .ref h0]) ⟨hx, hb, hml, hown, hG⟩ (cX5_init_1 l dC dI q6 H.size 0 0 0 0 0 0) ⟨va_cnB 0 hG (gC wd_68) rfl rfl rfl (evW2 hE) (hG _ wd_4) (by decide +kernel) ⟨Nat.le_of_ble_eq_true rfl, Nat.le_of_ble_eq_true rfl⟩, rfl, (hG _ wd_67)⟩ ⟨fun a U g mk q => by obtain ⟨q0, q1, qP, qK, qD⟩ := q; exact ⟨q0, q1, qP, va_K.moved (u := U) (U := U.calling g mk a) (Vm.Alike.refl U.vm) qK, qD⟩, fun U hU hW => ⟨rfl, by rw [hU], by rw [hU]; exact hPc, va_K.moved hW.alike hKc, hDc.weaken (fun _ _ _ _ => trivial)⟩⟩ rfl rfl hl.1 rfl (lv_room (Nat.le_of_ble_eq_true rfl)) dX1_init_28 ⟨by decide, by decide⟩) hS (fun q _ h => hFc q h) hFc (fun u8 t H1 locs ht hvm hw hB hz1 hk1 hS => ?_)
  obtain ⟨hP1, hK1, hD1⟩ := hB
  rw [ht] at hP1
  have hK1 := va_K.moved hvm.symm hK1
  obtain ⟨hP, hD⟩ := nv_join (wf := [(h0, .inr (1, [.ref q1, .ref q3, .null, .null])), (q1, .inl (ny2, 32768, .inl (fun _ => 0))), (q3, .inr (7, [.int 0, .int 0, .int 0, .int 0, .int 0])), (q6, .inr (5, [.int 304, .int 0, .int 0, .int 0, .int 0, .int 0]))]) hP hD [3] [0, 1, 2] rfl rfl (by decide) (by decide) hk1 hFc hP1 hD1 rfl
  have hK := (hK.sub (tys' := [(ny2, .int)]) [0] rfl).app hK1
  generalize H1 = H at hP hS ⊢
  have hK : va_K (dC, dI) vwCl [(ny2, .int)] s := hK
  refine va_putF (D := (dC, dI)) (ci := 1) (v := .ref q6) (ty := .object "NapMachine$Multiplier") (C := RX1) (T := TX1) (N := 4) hx hb hG inGX1 tyX1 tyX1_ok nmX1 hown hK hP hD hS 0 rfl rfl 2 (by decide) (hG _ wd_116) (fun _ h9 => h9) rfl hin rfl (by decide +kernel) rfl rfl (Nat.le_of_ble_eq_true rfl) dX1_init_31 (fun H locs hP hD hS => ?_)
  obtain ⟨hP, hD⟩ := nv_eq (ws' := [(h0, .inr (1, [.ref q1, .ref q3, .ref q6, .null])), (q1, .inl (ny2, 32768, .inl (fun _ => 0))), (q3, .inr (7, [.int 0, .int 0, .int 0, .int 0, .int 0])), (q6, .inr (5, [.int 304, .int 0, .int 0, .int 0, .int 0, .int 0]))]) hP hD rfl
  refine lv_aload_n hx hb dX1_init_34 rfl (lv_at hl 0 rfl) ?_
  refine va_new (ci := 9) (fs := [.null, .null, .int 0, .int 0, .int 0, .int 0]) (C := RX9) (T := TX9) (N := 6) hx hb hG inGX9 tyX9 tyX9_ok hown (hG _ wd_89) (hG _ wd_90) (hG _ wd_5) hK hP hD hS hA rfl (fun j hj => by rcases (show j = 0 ∨ j = 1 ∨ j = 2 ∨ j = 3 ∨ j = 4 ∨ j = 5 by omega) with rfl | rfl | rfl | rfl | rfl | rfl <;> rfl) (by decide) (by decide) dX1_init_35 (fun q9 H hP hD hS => ?_)
  obtain ⟨hP, hD⟩ := nv_eq (ws' := [(h0, .inr (1, [.ref q1, .ref q3, .ref q6, .null])), (q1, .inl (ny2, 32768, .inl (fun _ => 0))), (q3, .inr (7, [.int 0, .int 0, .int 0, .int 0, .int 0])), (q6, .inr (5, [.int 304, .int 0, .int 0, .int 0, .int 0, .int 0])), (q9, .inr (9, [.null, .null, .int 0, .int 0, .int 0, .int 0]))]) hP hD rfl
  refine W.widen (k := 4) (n := 32785) (by decide) (by decide) ?_
  refine lv_dup hx hb dX1_init_38 rfl ?_
  obtain ⟨hPc, hDc, hFc⟩ := nv_sub3 (wc := [(q9, .inr (9, [.null, .null, .int 0, .int 0, .int 0, .int 0]))]) hP hD hS hA [4] (by decide) rfl
  have hKc := hK.sub (tys' := []) [] rfl
  refine va_callv (va_runIN (As := []) (rest := [.ref q9, .ref h0]) ⟨hx, hb, hml, hown, hG⟩ (cX9_init_1 l dC dI q9 H.size 0 0 0 0 (iv_w (by decide : iv 0 0 0) (by decide) (by decide))) ⟨va_cnB 0 hG (gC wd_93) rfl rfl rfl (evW3 hE) (hG _ wd_5) (by decide +kernel) ⟨Nat.le_of_ble_eq_true rfl, Nat.le_of_ble_eq_true rfl⟩, rfl, (hG _ wd_92)⟩ ⟨fun a U g mk q => by obtain ⟨q0, q1, qP, qK, qD⟩ := q; exact ⟨q0, q1, qP, va_K.moved (u := U) (U := U.calling g mk a) (Vm.Alike.refl U.vm) qK, qD⟩, fun U hU hW => ⟨rfl, by rw [hU], by rw [hU]; exact hPc, va_K.moved hW.alike hKc, hDc.weaken (fun _ _ _ _ => trivial)⟩⟩ rfl rfl hl.1 rfl (lv_room (Nat.le_of_ble_eq_true rfl)) dX1_init_39 ⟨by decide, by decide⟩) hS (fun q _ h => hFc q h) hFc (fun u11 t H1 locs ht hvm hw hB hz1 hk1 hS => ?_)
  obtain ⟨u11_0, u11_1, u11_2, u11_3⟩ := u11
  obtain ⟨hP1, hK1, hD1⟩ := hB
  rw [ht] at hP1
  have hK1 := va_K.moved hvm.symm hK1
  obtain ⟨hP, hD⟩ := nv_join (wf := [(h0, .inr (1, [.ref q1, .ref q3, .ref q6, .null])), (q1, .inl (ny2, 32768, .inl (fun _ => 0))), (q3, .inr (7, [.int 0, .int 0, .int 0, .int 0, .int 0])), (q6, .inr (5, [.int 304, .int 0, .int 0, .int 0, .int 0, .int 0])), (q9, .inr (9, [.ref u11_0, .ref u11_1, .int 0, .int 0, .int 0, .int 0])), (u11_0, .inl (u11_2, 3, .inl (fun _ => 0))), (u11_1, .inl (u11_3, 3, .inl (fun _ => 0)))]) hP hD [4] [0, 1, 2, 3] rfl rfl (by decide) (by decide) hk1 hFc hP1 hD1 rfl
  have hK := (hK.sub (tys' := [(ny2, .int)]) [0] rfl).app hK1
  generalize H1 = H at hP hS ⊢
  have hK : va_K (dC, dI) vwCl [(ny2, .int), (u11_2, .int), (u11_3, .int)] s := hK
  refine W.widen (k := 6) (n := 32791) (by decide) (by decide) ?_
  refine va_putF (D := (dC, dI)) (ci := 1) (v := .ref q9) (ty := .object "NapMachine$Timer") (C := RX1) (T := TX1) (N := 4) hx hb hG inGX1 tyX1 tyX1_ok nmX1 hown hK hP hD hS 0 rfl rfl 3 (by decide) (hG _ wd_117) (fun _ h9 => h9) rfl hin rfl (by decide +kernel) rfl rfl (Nat.le_of_ble_eq_true rfl) dX1_init_42 (fun H locs hP hD hS => ?_)
  obtain ⟨hP, hD⟩ := nv_eq (ws' := [(h0, .inr (1, [.ref q1, .ref q3, .ref q6, .ref q9])), (q1, .inl (ny2, 32768, .inl (fun _ => 0))), (q3, .inr (7, [.int 0, .int 0, .int 0, .int 0, .int 0])), (q6, .inr (5, [.int 304, .int 0, .int 0, .int 0, .int 0, .int 0])), (q9, .inr (9, [.ref u11_0, .ref u11_1, .int 0, .int 0, .int 0, .int 0])), (u11_0, .inl (u11_2, 3, .inl (fun _ => 0))), (u11_1, .inl (u11_3, 3, .inl (fun _ => 0)))]) hP hD rfl
  rw [hQ]
  obtain ⟨hP9, hD9⟩ := nv_sub2 (wc := [(h0, .inr (1, [.ref q1, .ref q3, .ref q6, .ref q9])), (q1, .inl (ny2, 32768, .inl (fun _ => 0))), (q3, .inr (7, [.int 0, .int 0, .int 0, .int 0, .int 0])), (q6, .inr (5, [.int 304, .int 0, .int 0, .int 0, .int 0, .int 0])), (q9, .inr (9, [.ref u11_0, .ref u11_1, .int 0, .int 0, .int 0, .int 0])), (u11_0, .inl (u11_2, 3, .inl (fun _ => 0))), (u11_1, .inl (u11_3, 3, .inl (fun _ => 0)))]) hP hD [0, 1, 2, 3, 4, 5, 6] (by decide) rfl
  have hK9 := hK.sub (tys' := [(ny2, .int), (u11_2, .int), (u11_3, .int)]) [0, 1, 2] rfl
  refine W.widen (k := 6) (n := 32791) (by decide) (by decide) ?_
  exact W.vret hx hb hr (fun t ht hW => ⟨⟨(q1, q3, q6, q9, u11_0, u11_1, ny2, u11_2, u11_3), rfl, trivial, by rw [ht]; exact hP9, va_K.moved hW.alike hK9, hD9⟩, hS.F ht⟩) hS.2.2 dX1_init_45
set_option maxHeartbeats 100000000 in
set_option maxRecDepth 100000 in
theorem cX3_init_1 (l : Launch) (dC : Nat → ClassId) (dI : Nat → Nat → Nat) (h0 : Nat) (sz : Nat) (x0 : Int32) (ix0 : iv x0 0 40) : Met l yX3_init (Cond.code yX3_init cX3_init 1 none :: lw_G) ({ frames := 1, cells := 2, slots := 80, locals := 12 }) (va_Pc [.ref h0] (fun U => U.heap.size = sz ∧ va_P (dC, dI) vwCl [(h0, .inr (3, [.null, .null, .int x0]))] U.heap ∧ va_K (dC, dI) vwCl [] U ∧ va_D (fun _ => True) [(h0, .inr (3, [.null, .null, .int x0]))])) (va_Qv (fun (u : Nat × Nat × ClassId × ClassId) => True) (fun (u : Nat × Nat × ClassId × ClassId) (t : State) => va_P (dC, dI) vwCl [(h0, .inr (3, [.ref u.1, .ref u.2.1, .int x0])), (u.1, .inl (u.2.2.1, 40, .inl (fun _ => 0))), (u.2.1, .inl (u.2.2.2, 40, .inl (fun _ => 0)))] t.heap ∧ va_K (dC, dI) vwCl [(u.2.2.1, .int), (u.2.2.2, .int)] t ∧ va_D (va_A [(h0, .inr (3, [.null, .null, .int x0]))] sz) [(h0, .inr (3, [.ref u.1, .ref u.2.1, .int x0])), (u.1, .inl (u.2.2.1, 40, .inl (fun _ => 0))), (u.2.1, .inl (u.2.2.2, 40, .inl (fun _ => 0)))]) (va_A [(h0, .inr (3, [.null, .null, .int x0]))] sz)) 2 80 (va_A [(h0, .inr (3, [.null, .null, .int x0]))] sz) := by
  refine Met.ofW (cc := cX3_init) (maxL := 1) (ret := none) (by decide) rfl ?_
  intro p e s m args below meth c s₁ B hml hv
  obtain ⟨rfl, hsz, hP, hK, hD0⟩ := hv
  have hx := B.exec
  have hb := B.bytes
  have hr := B.returns
  have hts0 := atoms_spec (ws := Cond.code yX3_init cX3_init 1 none :: lw_G) B.pre
  have hG : ∀ w ∈ lw_G, w.before _ s = true := fun w h => hts0 w (List.mem_cons_of_mem _ h)
  have hown : s.vm.findClass RX3 = some m.cls := findClass_of_methodNamed B.named
  have hlocks := B.notSynchronized
  have hin : meth.name = "<init>" := (name_of_methodNamed B.named B.method).1
  subst hsz
  have hD := hD0.self (sz := s.heap.size)
  generalize hAe : va_A [(h0, .inr (3, [.null, .null, .int x0]))] s.heap.size = A at hD ⊢
  have hA : ∀ q : Nat, s.heap.size ≤ q → A q := fun q h => by rw [← hAe]; exact Or.inr h
  have hS : va_S A s.heap s.heap [] := va_S.rf
  have hP : va_P (dC, dI) vwCl [(h0, .inr (3, [.null, .null, .int x0]))] s.heap := hP
  have hl := lv_entry ([.ref h0]) (n := 1) (Nat.le_of_ble_eq_true rfl)
  rw [lg_entry_eq]
  generalize (lg_sl ([.ref h0]) ++ List.replicate (1 - (lg_sl ([.ref h0])).length) Slot.unset).toArray = ls at hl ⊢
  have hl : lv_has ls 1 [(0, .ref h0)] := hl
  generalize ([.ref h0] : List Value).toArray = ar at hG ⊢
  refine wq (fun Q hQ => ?_)
  refine lv_aload_n hx hb dX3_init_0 rfl (lv_at hl 0 rfl) ?_
  refine W.objInit hx hb hown (hG _ wd_138) (hG _ wd_32) (hG _ wd_33) rfl (by rw [hml]; exact hl.1) rfl dX3_init_1 (Nat.le_of_ble_eq_true rfl) (Nat.le_of_ble_eq_true rfl) ?_
  refine W.eq (g2 := F0 m 4 ls []) rfl ?_
  refine lv_aload_n hx hb dX3_init_4 rfl (lv_at hl 0 rfl) ?_
  refine lv_bipush (v := 40) hx hb dX3_init_5 (by decide) ?_
  refine va_newa (atype := .int) (ty := .int) (a0 := (40, (.inl (fun _ => 0)))) hx hb (hG _ wd_63) rfl hK hP hD hS hA (fun _ => rfl) (by decide) (by decide) (by decide) (by decide) (by decide) dX3_init_7 (fun q1 ny2 H hK hP hD hS => ?_)
  obtain ⟨hP, hD⟩ := nv_eq (ws' := [(h0, .inr (3, [.null, .null, .int x0])), (q1, .inl (ny2, 40, .inl (fun _ => 0)))]) hP hD rfl
  have hK : va_K (dC, dI) vwCl [(ny2, .int)] s := hK
  refine W.widen (k := 1) (n := 40) (by decide) (by decide) ?_
  refine va_putF (D := (dC, dI)) (ci := 3) (v := .ref q1) (ty := .array .int) (C := RX3) (T := TX3) (N := 3) hx hb hG inGX3 tyX3 tyX3_ok nmX3 hown hK hP hD hS 0 rfl rfl 0 (by decide) (hG _ wd_139) (fun _ h9 => h9) rfl hin rfl (by decide +kernel) rfl rfl (Nat.le_of_ble_eq_true rfl) dX3_init_9 (fun H locs hP hD hS => ?_)
  obtain ⟨hP, hD⟩ := nv_eq (ws' := [(h0, .inr (3, [.ref q1, .null, .int x0])), (q1, .inl (ny2, 40, .inl (fun _ => 0)))]) hP hD rfl
  refine lv_aload_n hx hb dX3_init_12 rfl (lv_at hl 0 rfl) ?_
  refine lv_bipush (v := 40) hx hb dX3_init_13 (by decide) ?_
  refine va_newa (atype := .int) (ty := .int) (a0 := (40, (.inl (fun _ => 0)))) hx hb (hG _ wd_63) rfl hK hP hD hS hA (fun _ => rfl) (by decide) (by decide) (by decide) (by decide) (by decide) dX3_init_15 (fun q3 ny4 H hK hP hD hS => ?_)
  obtain ⟨hP, hD⟩ := nv_eq (ws' := [(h0, .inr (3, [.ref q1, .null, .int x0])), (q1, .inl (ny2, 40, .inl (fun _ => 0))), (q3, .inl (ny4, 40, .inl (fun _ => 0)))]) hP hD rfl
  have hK : va_K (dC, dI) vwCl [(ny2, .int), (ny4, .int)] s := hK
  refine W.widen (k := 2) (n := 80) (by decide) (by decide) ?_
  refine va_putF (D := (dC, dI)) (ci := 3) (v := .ref q3) (ty := .array .int) (C := RX3) (T := TX3) (N := 3) hx hb hG inGX3 tyX3 tyX3_ok nmX3 hown hK hP hD hS 0 rfl rfl 1 (by decide) (hG _ wd_140) (fun _ h9 => h9) rfl hin rfl (by decide +kernel) rfl rfl (Nat.le_of_ble_eq_true rfl) dX3_init_17 (fun H locs hP hD hS => ?_)
  obtain ⟨hP, hD⟩ := nv_eq (ws' := [(h0, .inr (3, [.ref q1, .ref q3, .int x0])), (q1, .inl (ny2, 40, .inl (fun _ => 0))), (q3, .inl (ny4, 40, .inl (fun _ => 0)))]) hP hD rfl
  rw [hQ]
  obtain ⟨hP9, hD9⟩ := nv_sub2 (wc := [(h0, .inr (3, [.ref q1, .ref q3, .int x0])), (q1, .inl (ny2, 40, .inl (fun _ => 0))), (q3, .inl (ny4, 40, .inl (fun _ => 0)))]) hP hD [0, 1, 2] (by decide) rfl
  have hK9 := hK.sub (tys' := [(ny2, .int), (ny4, .int)]) [0, 1] rfl
  refine W.widen (k := 2) (n := 80) (by decide) (by decide) ?_
  exact W.vret hx hb hr (fun t ht hW => ⟨⟨(q1, q3, ny2, ny4), rfl, trivial, by rw [ht]; exact hP9, va_K.moved hW.alike hK9, hD9⟩, hS.F ht⟩) hS.2.2 dX3_init_20
set_option maxHeartbeats 100000000 in
set_option maxRecDepth 100000 in
theorem cX2_init_1 (l : Launch) (dC : Nat → ClassId) (dI : Nat → Nat → Nat) (adK adV : Nat → Nat) (h0 h1 : Nat) (sz : Nat) (x0 x1 x2 x3 x4 : Int32) (ix4 : iv x4 0 1) : Met l yX2_init (Cond.code yX2_init cX2_init 2 none :: lw_G) ({ frames := 2, cells := 4, slots := 99, locals := 32 }) (va_Pc [.ref h0, .ref h1] (fun U => U.heap.size = sz ∧ va_P (dC, dI) vwCl [(h0, .inr (2, [.null, .null, .null, .int x0, .int x1, .int x2, .int x3, .int x4]))] U.heap ∧ va_K (dC, dI) vwCl [] U ∧ va_D (fun _ => True) [(h0, .inr (2, [.null, .null, .null, .int x0, .int x1, .int x2, .int x3, .int x4]))] ∧ ev adK adV (va_A [(h0, .inr (2, [.null, .null, .null, .int x0, .int x1, .int x2, .int x3, .int x4]))] sz) U U.heap)) (va_Qv (fun (u : Nat × Nat × Nat × Nat × ClassId × ClassId × ClassId) => True) (fun (u : Nat × Nat × Nat × Nat × ClassId × ClassId × ClassId) (t : State) => va_P (dC, dI) vwCl [(h0, .inr (2, [.ref u.1, .ref u.2.1, .ref h1, .int x0, .int x1, .int x2, .int x3, .int x4])), (u.1, .inl (u.2.2.2.2.1, 16, .inl (fun _ => 0))), (u.2.1, .inr (3, [.ref u.2.2.1, .ref u.2.2.2.1, .int 0])), (u.2.2.1, .inl (u.2.2.2.2.2.1, 40, .inl (fun _ => 0))), (u.2.2.2.1, .inl (u.2.2.2.2.2.2, 40, .inl (fun _ => 0)))] t.heap ∧ va_K (dC, dI) vwCl [(u.2.2.2.2.1, .int), (u.2.2.2.2.2.1, .int), (u.2.2.2.2.2.2, .int)] t ∧ va_D (va_A [(h0, .inr (2, [.null, .null, .null, .int x0, .int x1, .int x2, .int x3, .int x4]))] sz) [(h0, .inr (2, [.ref u.1, .ref u.2.1, .ref h1, .int x0, .int x1, .int x2, .int x3, .int x4])), (u.1, .inl (u.2.2.2.2.1, 16, .inl (fun _ => 0))), (u.2.1, .inr (3, [.ref u.2.2.1, .ref u.2.2.2.1, .int 0])), (u.2.2.1, .inl (u.2.2.2.2.2.1, 40, .inl (fun _ => 0))), (u.2.2.2.1, .inl (u.2.2.2.2.2.2, 40, .inl (fun _ => 0)))]) (va_A [(h0, .inr (2, [.null, .null, .null, .int x0, .int x1, .int x2, .int x3, .int x4]))] sz)) 4 99 (va_A [(h0, .inr (2, [.null, .null, .null, .int x0, .int x1, .int x2, .int x3, .int x4]))] sz) := by
  refine Met.ofW (cc := cX2_init) (maxL := 2) (ret := none) (by decide) rfl ?_
  intro p e s m args below meth c s₁ B hml hv
  obtain ⟨rfl, hsz, hP, hK, hD0, hE⟩ := hv
  have hx := B.exec
  have hb := B.bytes
  have hr := B.returns
  have hts0 := atoms_spec (ws := Cond.code yX2_init cX2_init 2 none :: lw_G) B.pre
  have hG : ∀ w ∈ lw_G, w.before _ s = true := fun w h => hts0 w (List.mem_cons_of_mem _ h)
  have hown : s.vm.findClass RX2 = some m.cls := findClass_of_methodNamed B.named
  have hlocks := B.notSynchronized
  have hin : meth.name = "<init>" := (name_of_methodNamed B.named B.method).1
  subst hsz
  have hD := hD0.self (sz := s.heap.size)
  generalize hAe : va_A [(h0, .inr (2, [.null, .null, .null, .int x0, .int x1, .int x2, .int x3, .int x4]))] s.heap.size = A at hD hE ⊢
  have hA : ∀ q : Nat, s.heap.size ≤ q → A q := fun q h => by rw [← hAe]; exact Or.inr h
  have hS : va_S A s.heap s.heap [] := va_S.rf
  have hP : va_P (dC, dI) vwCl [(h0, .inr (2, [.null, .null, .null, .int x0, .int x1, .int x2, .int x3, .int x4]))] s.heap := hP
  have hl := lv_entry ([.ref h0, .ref h1]) (n := 2) (Nat.le_of_ble_eq_true rfl)
  rw [lg_entry_eq]
  generalize (lg_sl ([.ref h0, .ref h1]) ++ List.replicate (2 - (lg_sl ([.ref h0, .ref h1])).length) Slot.unset).toArray = ls at hl ⊢
  have hl : lv_has ls 2 [(0, .ref h0), (1, .ref h1)] := hl
  generalize ([.ref h0, .ref h1] : List Value).toArray = ar at hG ⊢
  refine wq (fun Q hQ => ?_)
  refine lv_aload_n hx hb dX2_init_0 rfl (lv_at hl 0 rfl) ?_
  refine W.objInit hx hb hown (hG _ wd_132) (hG _ wd_32) (hG _ wd_33) rfl (by rw [hml]; exact hl.1) rfl dX2_init_1 (Nat.le_of_ble_eq_true rfl) (Nat.le_of_ble_eq_true rfl) ?_
  refine W.eq (g2 := F0 m 4 ls []) rfl ?_
  refine lv_aload_n hx hb dX2_init_4 rfl (lv_at hl 0 rfl) ?_
  refine lv_bipush (v := 16) hx hb dX2_init_5 (by decide) ?_
  refine va_newa (atype := .int) (ty := .int) (a0 := (16, (.inl (fun _ => 0)))) hx hb (hG _ wd_63) rfl hK hP hD hS hA (fun _ => rfl) (by decide) (by decide) (by decide) (by decide) (by decide) dX2_init_7 (fun q1 ny2 H hK hP hD hS => ?_)
  obtain ⟨hP, hD⟩ := nv_eq (ws' := [(h0, .inr (2, [.null, .null, .null, .int x0, .int x1, .int x2, .int x3, .int x4])), (q1, .inl (ny2, 16, .inl (fun _ => 0)))]) hP hD rfl
  have hK : va_K (dC, dI) vwCl [(ny2, .int)] s := hK
  refine W.widen (k := 1) (n := 16) (by decide) (by decide) ?_
  refine va_putF (D := (dC, dI)) (ci := 2) (v := .ref q1) (ty := .array .int) (C := RX2) (T := TX2) (N := 8) hx hb hG inGX2 tyX2 tyX2_ok nmX2 hown hK hP hD hS 0 rfl rfl 0 (by decide) (hG _ wd_149) (fun _ h9 => h9) rfl hin rfl (by decide +kernel) rfl rfl (Nat.le_of_ble_eq_true rfl) dX2_init_9 (fun H locs hP hD hS => ?_)
  obtain ⟨hP, hD⟩ := nv_eq (ws' := [(h0, .inr (2, [.ref q1, .null, .null, .int x0, .int x1, .int x2, .int x3, .int x4])), (q1, .inl (ny2, 16, .inl (fun _ => 0)))]) hP hD rfl
  refine lv_aload_n hx hb dX2_init_12 rfl (lv_at hl 0 rfl) ?_
  refine va_new (ci := 3) (fs := [.null, .null, .int 0]) (C := RX3) (T := TX3) (N := 3) hx hb hG inGX3 tyX3 tyX3_ok hown (hG _ wd_133) (hG _ wd_134) (hG _ wd_7) hK hP hD hS hA rfl (fun j hj => by rcases (show j = 0 ∨ j = 1 ∨ j = 2 by omega) with rfl | rfl | rfl <;> rfl) (by decide) (by decide) dX2_init_13 (fun q3 H hP hD hS => ?_)
  obtain ⟨hP, hD⟩ := nv_eq (ws' := [(h0, .inr (2, [.ref q1, .null, .null, .int x0, .int x1, .int x2, .int x3, .int x4])), (q1, .inl (ny2, 16, .inl (fun _ => 0))), (q3, .inr (3, [.null, .null, .int 0]))]) hP hD rfl
  refine W.widen (k := 2) (n := 19) (by decide) (by decide) ?_
  refine lv_dup hx hb dX2_init_16 rfl ?_
  obtain ⟨hPc, hDc, hFc⟩ := nv_sub3 (wc := [(q3, .inr (3, [.null, .null, .int 0]))]) hP hD hS hA [2] (by decide) rfl
  have hKc := hK.sub (tys' := []) [] rfl
  refine va_callv (va_runIN (As := []) (rest := [.ref q3, .ref h0]) ⟨hx, hb, hml, hown, hG⟩ (cX3_init_1 l dC dI q3 H.size 0 (iv_w (by decide : iv 0 0 0) (by decide) (by decide))) ⟨va_cnB 0 hG (gC wd_137) rfl rfl rfl (evW4 hE) (hG _ wd_7) (by decide +kernel) ⟨Nat.le_of_ble_eq_true rfl, Nat.le_of_ble_eq_true rfl⟩, rfl, (hG _ wd_136)⟩ ⟨fun a U g mk q => by obtain ⟨q0, q1, qP, qK, qD⟩ := q; exact ⟨q0, q1, qP, va_K.moved (u := U) (U := U.calling g mk a) (Vm.Alike.refl U.vm) qK, qD⟩, fun U hU hW => ⟨rfl, by rw [hU], by rw [hU]; exact hPc, va_K.moved hW.alike hKc, hDc.weaken (fun _ _ _ _ => trivial)⟩⟩ rfl rfl hl.1 rfl (lv_room (Nat.le_of_ble_eq_true rfl)) dX2_init_17 ⟨by decide, by decide⟩) hS (fun q _ h => hFc q h) hFc (fun u5 t H1 locs ht hvm hw hB hz1 hk1 hS => ?_)
  obtain ⟨u5_0, u5_1, u5_2, u5_3⟩ := u5
  obtain ⟨hP1, hK1, hD1⟩ := hB
  rw [ht] at hP1
  have hK1 := va_K.moved hvm.symm hK1
  obtain ⟨hP, hD⟩ := nv_join (wf := [(h0, .inr (2, [.ref q1, .null, .null, .int x0, .int x1, .int x2, .int x3, .int x4])), (q1, .inl (ny2, 16, .inl (fun _ => 0))), (q3, .inr (3, [.ref u5_0, .ref u5_1, .int 0])), (u5_0, .inl (u5_2, 40, .inl (fun _ => 0))), (u5_1, .inl (u5_3, 40, .inl (fun _ => 0)))]) hP hD [2] [0, 1] rfl rfl (by decide) (by decide) hk1 hFc hP1 hD1 rfl
  have hK := (hK.sub (tys' := [(ny2, .int)]) [0] rfl).app hK1
  generalize H1 = H at hP hS ⊢
  have hK : va_K (dC, dI) vwCl [(ny2, .int), (u5_2, .int), (u5_3, .int)] s := hK
  refine W.widen (k := 4) (n := 99) (by decide) (by decide) ?_
  refine va_putF (D := (dC, dI)) (ci := 2) (v := .ref q3) (ty := .object "NapMachine$Events") (C := RX2) (T := TX2) (N := 8) hx hb hG inGX2 tyX2 tyX2_ok nmX2 hown hK hP hD hS 0 rfl rfl 1 (by decide) (hG _ wd_150) (fun _ h9 => h9) rfl hin rfl (by decide +kernel) rfl rfl (Nat.le_of_ble_eq_true rfl) dX2_init_20 (fun H locs hP hD hS => ?_)
  obtain ⟨hP, hD⟩ := nv_eq (ws' := [(h0, .inr (2, [.ref q1, .ref q3, .null, .int x0, .int x1, .int x2, .int x3, .int x4])), (q1, .inl (ny2, 16, .inl (fun _ => 0))), (q3, .inr (3, [.ref u5_0, .ref u5_1, .int 0])), (u5_0, .inl (u5_2, 40, .inl (fun _ => 0))), (u5_1, .inl (u5_3, 40, .inl (fun _ => 0)))]) hP hD rfl
  refine lv_aload_n hx hb dX2_init_23 rfl (lv_at hl 0 rfl) ?_
  refine lv_aload_n hx hb dX2_init_24 rfl (lv_at hl 1 rfl) ?_
  refine va_putF (D := (dC, dI)) (ci := 2) (v := .ref h1) (ty := .object "NapMachine$Bus") (C := RX2) (T := TX2) (N := 8) hx hb hG inGX2 tyX2 tyX2_ok nmX2 hown hK hP hD hS 0 rfl rfl 2 (by decide) (hG _ wd_151) (fun _ h9 => h9) rfl hin rfl (by decide +kernel) rfl rfl (Nat.le_of_ble_eq_true rfl) dX2_init_25 (fun H locs hP hD hS => ?_)
  obtain ⟨hP, hD⟩ := nv_eq (ws' := [(h0, .inr (2, [.ref q1, .ref q3, .ref h1, .int x0, .int x1, .int x2, .int x3, .int x4])), (q1, .inl (ny2, 16, .inl (fun _ => 0))), (q3, .inr (3, [.ref u5_0, .ref u5_1, .int 0])), (u5_0, .inl (u5_2, 40, .inl (fun _ => 0))), (u5_1, .inl (u5_3, 40, .inl (fun _ => 0)))]) hP hD rfl
  rw [hQ]
  obtain ⟨hP9, hD9⟩ := nv_sub2 (wc := [(h0, .inr (2, [.ref q1, .ref q3, .ref h1, .int x0, .int x1, .int x2, .int x3, .int x4])), (q1, .inl (ny2, 16, .inl (fun _ => 0))), (q3, .inr (3, [.ref u5_0, .ref u5_1, .int 0])), (u5_0, .inl (u5_2, 40, .inl (fun _ => 0))), (u5_1, .inl (u5_3, 40, .inl (fun _ => 0)))]) hP hD [0, 1, 2, 3, 4] (by decide) rfl
  have hK9 := hK.sub (tys' := [(ny2, .int), (u5_2, .int), (u5_3, .int)]) [0, 1, 2] rfl
  refine W.widen (k := 4) (n := 99) (by decide) (by decide) ?_
  exact W.vret hx hb hr (fun t ht hW => ⟨⟨(q1, q3, u5_0, u5_1, ny2, u5_2, u5_3), rfl, trivial, by rw [ht]; exact hP9, va_K.moved hW.alike hK9, hD9⟩, hS.F ht⟩) hS.2.2 dX2_init_28
set_option maxHeartbeats 100000000 in
set_option maxRecDepth 100000 in
theorem cX6_init_1 (l : Launch) (dC : Nat → ClassId) (dI : Nat → Nat → Nat) (h0 : Nat) (sz : Nat) (x0 x1 x2 x3 x4 : Int32) (ix3 : iv x3 0 1) (ix4 : iv x4 0 1) : Met l yX6_init (Cond.code yX6_init cX6_init 1 none :: lw_G) ({ frames := 1, cells := 0, slots := 0, locals := 12 }) (va_Pc [.ref h0] (fun U => U.heap.size = sz ∧ va_P (dC, dI) vwCl [(h0, .inr (6, [.int x0, .int x1, .int x2, .int x3, .int x4]))] U.heap ∧ va_K (dC, dI) vwCl [] U ∧ va_D (fun _ => True) [(h0, .inr (6, [.int x0, .int x1, .int x2, .int x3, .int x4]))])) (va_Qv (fun (u : Unit) => True) (fun (u : Unit) (t : State) => va_P (dC, dI) vwCl [(h0, .inr (6, [.int x0, .int x1, .int x2, .int x3, .int x4]))] t.heap ∧ va_K (dC, dI) vwCl [] t ∧ va_D (va_A [(h0, .inr (6, [.int x0, .int x1, .int x2, .int x3, .int x4]))] sz) [(h0, .inr (6, [.int x0, .int x1, .int x2, .int x3, .int x4]))]) (va_A [(h0, .inr (6, [.int x0, .int x1, .int x2, .int x3, .int x4]))] sz)) 0 0 (va_A [(h0, .inr (6, [.int x0, .int x1, .int x2, .int x3, .int x4]))] sz) := by
  refine Met.ofW (cc := cX6_init) (maxL := 1) (ret := none) (by decide) rfl ?_
  intro p e s m args below meth c s₁ B hml hv
  obtain ⟨rfl, hsz, hP, hK, hD0⟩ := hv
  have hx := B.exec
  have hb := B.bytes
  have hr := B.returns
  have hts0 := atoms_spec (ws := Cond.code yX6_init cX6_init 1 none :: lw_G) B.pre
  have hG : ∀ w ∈ lw_G, w.before _ s = true := fun w h => hts0 w (List.mem_cons_of_mem _ h)
  have hown : s.vm.findClass RX6 = some m.cls := findClass_of_methodNamed B.named
  have hlocks := B.notSynchronized
  have hin : meth.name = "<init>" := (name_of_methodNamed B.named B.method).1
  subst hsz
  have hD := hD0.self (sz := s.heap.size)
  generalize hAe : va_A [(h0, .inr (6, [.int x0, .int x1, .int x2, .int x3, .int x4]))] s.heap.size = A at hD ⊢
  have hA : ∀ q : Nat, s.heap.size ≤ q → A q := fun q h => by rw [← hAe]; exact Or.inr h
  have hS : va_S A s.heap s.heap [] := va_S.rf
  have hP : va_P (dC, dI) vwCl [(h0, .inr (6, [.int x0, .int x1, .int x2, .int x3, .int x4]))] s.heap := hP
  have hl := lv_entry ([.ref h0]) (n := 1) (Nat.le_of_ble_eq_true rfl)
  rw [lg_entry_eq]
  generalize (lg_sl ([.ref h0]) ++ List.replicate (1 - (lg_sl ([.ref h0])).length) Slot.unset).toArray = ls at hl ⊢
  have hl : lv_has ls 1 [(0, .ref h0)] := hl
  generalize ([.ref h0] : List Value).toArray = ar at hG ⊢
  refine wq (fun Q hQ => ?_)
  refine lv_aload_n hx hb dX6_init_0 rfl (lv_at hl 0 rfl) ?_
  refine W.objInit hx hb hown (hG _ wd_185) (hG _ wd_32) (hG _ wd_33) rfl (by rw [hml]; exact hl.1) rfl dX6_init_1 (Nat.le_of_ble_eq_true rfl) (Nat.le_of_ble_eq_true rfl) ?_
  refine W.eq (g2 := F0 m 4 ls []) rfl ?_
  rw [hQ]
  obtain ⟨hP9, hD9⟩ := nv_sub2 (wc := [(h0, .inr (6, [.int x0, .int x1, .int x2, .int x3, .int x4]))]) hP hD [0] (by decide) rfl
  have hK9 := hK.sub (tys' := []) [] rfl
  exact W.vret hx hb hr (fun t ht hW => ⟨⟨(), rfl, trivial, by rw [ht]; exact hP9, va_K.moved hW.alike hK9, hD9⟩, hS.F ht⟩) hS.2.2 dX6_init_4
set_option maxHeartbeats 100000000 in
set_option maxRecDepth 100000 in
theorem cX4_init_1 (l : Launch) (dC : Nat → ClassId) (dI : Nat → Nat → Nat) (h0 : Nat) (sz : Nat) (x0 : Int32) (ix0 : iv x0 0 60) : Met l yX4_init (Cond.code yX4_init cX4_init 1 none :: lw_G) ({ frames := 1, cells := 3, slots := 180, locals := 12 }) (va_Pc [.ref h0] (fun U => U.heap.size = sz ∧ va_P (dC, dI) vwCl [(h0, .inr (4, [.null, .null, .null, .int x0]))] U.heap ∧ va_K (dC, dI) vwCl [] U ∧ va_D (fun _ => True) [(h0, .inr (4, [.null, .null, .null, .int x0]))])) (va_Qv (fun (u : Nat × Nat × Nat × ClassId × ClassId × ClassId) => True) (fun (u : Nat × Nat × Nat × ClassId × ClassId × ClassId) (t : State) => va_P (dC, dI) vwCl [(h0, .inr (4, [.ref u.1, .ref u.2.1, .ref u.2.2.1, .int x0])), (u.1, .inl (u.2.2.2.1, 60, .inr (.inl (fun _ => 0)))), (u.2.1, .inl (u.2.2.2.2.1, 60, .inl (fun _ => 0))), (u.2.2.1, .inl (u.2.2.2.2.2, 60, .inl (fun _ => 0)))] t.heap ∧ va_K (dC, dI) vwCl [(u.2.2.2.1, .long), (u.2.2.2.2.1, .int), (u.2.2.2.2.2, .int)] t ∧ va_D (va_A [(h0, .inr (4, [.null, .null, .null, .int x0]))] sz) [(h0, .inr (4, [.ref u.1, .ref u.2.1, .ref u.2.2.1, .int x0])), (u.1, .inl (u.2.2.2.1, 60, .inr (.inl (fun _ => 0)))), (u.2.1, .inl (u.2.2.2.2.1, 60, .inl (fun _ => 0))), (u.2.2.1, .inl (u.2.2.2.2.2, 60, .inl (fun _ => 0)))]) (va_A [(h0, .inr (4, [.null, .null, .null, .int x0]))] sz)) 3 180 (va_A [(h0, .inr (4, [.null, .null, .null, .int x0]))] sz) := by
  refine Met.ofW (cc := cX4_init) (maxL := 1) (ret := none) (by decide) rfl ?_
  intro p e s m args below meth c s₁ B hml hv
  obtain ⟨rfl, hsz, hP, hK, hD0⟩ := hv
  have hx := B.exec
  have hb := B.bytes
  have hr := B.returns
  have hts0 := atoms_spec (ws := Cond.code yX4_init cX4_init 1 none :: lw_G) B.pre
  have hG : ∀ w ∈ lw_G, w.before _ s = true := fun w h => hts0 w (List.mem_cons_of_mem _ h)
  have hown : s.vm.findClass RX4 = some m.cls := findClass_of_methodNamed B.named
  have hlocks := B.notSynchronized
  have hin : meth.name = "<init>" := (name_of_methodNamed B.named B.method).1
  subst hsz
  have hD := hD0.self (sz := s.heap.size)
  generalize hAe : va_A [(h0, .inr (4, [.null, .null, .null, .int x0]))] s.heap.size = A at hD ⊢
  have hA : ∀ q : Nat, s.heap.size ≤ q → A q := fun q h => by rw [← hAe]; exact Or.inr h
  have hS : va_S A s.heap s.heap [] := va_S.rf
  have hP : va_P (dC, dI) vwCl [(h0, .inr (4, [.null, .null, .null, .int x0]))] s.heap := hP
  have hl := lv_entry ([.ref h0]) (n := 1) (Nat.le_of_ble_eq_true rfl)
  rw [lg_entry_eq]
  generalize (lg_sl ([.ref h0]) ++ List.replicate (1 - (lg_sl ([.ref h0])).length) Slot.unset).toArray = ls at hl ⊢
  have hl : lv_has ls 1 [(0, .ref h0)] := hl
  generalize ([.ref h0] : List Value).toArray = ar at hG ⊢
  refine wq (fun Q hQ => ?_)
  refine lv_aload_n hx hb dX4_init_0 rfl (lv_at hl 0 rfl) ?_
  refine W.objInit hx hb hown (hG _ wd_207) (hG _ wd_32) (hG _ wd_33) rfl (by rw [hml]; exact hl.1) rfl dX4_init_1 (Nat.le_of_ble_eq_true rfl) (Nat.le_of_ble_eq_true rfl) ?_
  refine W.eq (g2 := F0 m 4 ls []) rfl ?_
  refine lv_aload_n hx hb dX4_init_4 rfl (lv_at hl 0 rfl) ?_
  refine lv_bipush (v := 60) hx hb dX4_init_5 (by decide) ?_
  refine va_newa (atype := .long) (ty := .long) (a0 := (60, (.inr (.inl (fun _ => 0))))) hx hb (hG _ wd_221) rfl hK hP hD hS hA (fun _ => rfl) (by decide) (by decide) (by decide) (by decide) (by decide) dX4_init_7 (fun q1 ny2 H hK hP hD hS => ?_)
  obtain ⟨hP, hD⟩ := nv_eq (ws' := [(h0, .inr (4, [.null, .null, .null, .int x0])), (q1, .inl (ny2, 60, .inr (.inl (fun _ => 0))))]) hP hD rfl
  have hK : va_K (dC, dI) vwCl [(ny2, .long)] s := hK
  refine W.widen (k := 1) (n := 60) (by decide) (by decide) ?_
  refine va_putF (D := (dC, dI)) (ci := 4) (v := .ref q1) (ty := .array .long) (C := RX4) (T := TX4) (N := 4) hx hb hG inGX4 tyX4 tyX4_ok nmX4 hown hK hP hD hS 0 rfl rfl 0 (by decide) (hG _ wd_208) (fun _ h9 => h9) rfl hin rfl (by decide +kernel) rfl rfl (Nat.le_of_ble_eq_true rfl) dX4_init_9 (fun H locs hP hD hS => ?_)
  obtain ⟨hP, hD⟩ := nv_eq (ws' := [(h0, .inr (4, [.ref q1, .null, .null, .int x0])), (q1, .inl (ny2, 60, .inr (.inl (fun _ => 0))))]) hP hD rfl
  refine lv_aload_n hx hb dX4_init_12 rfl (lv_at hl 0 rfl) ?_
  refine lv_bipush (v := 60) hx hb dX4_init_13 (by decide) ?_
  refine va_newa (atype := .int) (ty := .int) (a0 := (60, (.inl (fun _ => 0)))) hx hb (hG _ wd_63) rfl hK hP hD hS hA (fun _ => rfl) (by decide) (by decide) (by decide) (by decide) (by decide) dX4_init_15 (fun q3 ny4 H hK hP hD hS => ?_)
  obtain ⟨hP, hD⟩ := nv_eq (ws' := [(h0, .inr (4, [.ref q1, .null, .null, .int x0])), (q1, .inl (ny2, 60, .inr (.inl (fun _ => 0)))), (q3, .inl (ny4, 60, .inl (fun _ => 0)))]) hP hD rfl
  have hK : va_K (dC, dI) vwCl [(ny2, .long), (ny4, .int)] s := hK
  refine W.widen (k := 2) (n := 120) (by decide) (by decide) ?_
  refine va_putF (D := (dC, dI)) (ci := 4) (v := .ref q3) (ty := .array .int) (C := RX4) (T := TX4) (N := 4) hx hb hG inGX4 tyX4 tyX4_ok nmX4 hown hK hP hD hS 0 rfl rfl 1 (by decide) (hG _ wd_209) (fun _ h9 => h9) rfl hin rfl (by decide +kernel) rfl rfl (Nat.le_of_ble_eq_true rfl) dX4_init_17 (fun H locs hP hD hS => ?_)
  obtain ⟨hP, hD⟩ := nv_eq (ws' := [(h0, .inr (4, [.ref q1, .ref q3, .null, .int x0])), (q1, .inl (ny2, 60, .inr (.inl (fun _ => 0)))), (q3, .inl (ny4, 60, .inl (fun _ => 0)))]) hP hD rfl
  refine lv_aload_n hx hb dX4_init_20 rfl (lv_at hl 0 rfl) ?_
  refine lv_bipush (v := 60) hx hb dX4_init_21 (by decide) ?_
  refine va_newa (atype := .int) (ty := .int) (a0 := (60, (.inl (fun _ => 0)))) hx hb (hG _ wd_63) rfl hK hP hD hS hA (fun _ => rfl) (by decide) (by decide) (by decide) (by decide) (by decide) dX4_init_23 (fun q5 ny6 H hK hP hD hS => ?_)
  obtain ⟨hP, hD⟩ := nv_eq (ws' := [(h0, .inr (4, [.ref q1, .ref q3, .null, .int x0])), (q1, .inl (ny2, 60, .inr (.inl (fun _ => 0)))), (q3, .inl (ny4, 60, .inl (fun _ => 0))), (q5, .inl (ny6, 60, .inl (fun _ => 0)))]) hP hD rfl
  have hK : va_K (dC, dI) vwCl [(ny2, .long), (ny4, .int), (ny6, .int)] s := hK
  refine W.widen (k := 3) (n := 180) (by decide) (by decide) ?_
  refine va_putF (D := (dC, dI)) (ci := 4) (v := .ref q5) (ty := .array .int) (C := RX4) (T := TX4) (N := 4) hx hb hG inGX4 tyX4 tyX4_ok nmX4 hown hK hP hD hS 0 rfl rfl 2 (by decide) (hG _ wd_210) (fun _ h9 => h9) rfl hin rfl (by decide +kernel) rfl rfl (Nat.le_of_ble_eq_true rfl) dX4_init_25 (fun H locs hP hD hS => ?_)
  obtain ⟨hP, hD⟩ := nv_eq (ws' := [(h0, .inr (4, [.ref q1, .ref q3, .ref q5, .int x0])), (q1, .inl (ny2, 60, .inr (.inl (fun _ => 0)))), (q3, .inl (ny4, 60, .inl (fun _ => 0))), (q5, .inl (ny6, 60, .inl (fun _ => 0)))]) hP hD rfl
  rw [hQ]
  obtain ⟨hP9, hD9⟩ := nv_sub2 (wc := [(h0, .inr (4, [.ref q1, .ref q3, .ref q5, .int x0])), (q1, .inl (ny2, 60, .inr (.inl (fun _ => 0)))), (q3, .inl (ny4, 60, .inl (fun _ => 0))), (q5, .inl (ny6, 60, .inl (fun _ => 0)))]) hP hD [0, 1, 2, 3] (by decide) rfl
  have hK9 := hK.sub (tys' := [(ny2, .long), (ny4, .int), (ny6, .int)]) [0, 1, 2] rfl
  refine W.widen (k := 3) (n := 180) (by decide) (by decide) ?_
  exact W.vret hx hb hr (fun t ht hW => ⟨⟨(q1, q3, q5, ny2, ny4, ny6), rfl, trivial, by rw [ht]; exact hP9, va_K.moved hW.alike hK9, hD9⟩, hS.F ht⟩) hS.2.2 dX4_init_28
set_option maxHeartbeats 100000000 in
set_option maxRecDepth 100000 in
theorem cJ0_coder_7d493_1 (l : Launch) (dC : Nat → ClassId) (dI : Nat → Nat → Nat) (adK adV : Nat → Nat) (sz : Nat) : Met l yJ0_coder_7d493 (Cond.code yJ0_coder_7d493 cJ0_coder_7d493 1 (some .byte) :: lw_G) ({ frames := 0, cells := 0, slots := 0, locals := 0 }) (va_Pc [.ref (adK 0)] (fun U => U.heap.size = sz ∧ va_P (dC, dI) vwCl [] U.heap ∧ va_K (dC, dI) vwCl [] U ∧ va_D (fun _ => True) [] ∧ ev adK adV (va_A [] sz) U U.heap)) (va_Qi (fun (r : Int32) (u : Unit) => r = 0 ∧ True) (fun (u : Unit) (t : State) => va_P (dC, dI) vwCl [] t.heap ∧ va_K (dC, dI) vwCl [] t ∧ va_D (va_A [] sz) []) (va_A [] sz)) 0 0 (va_A [] sz) := by
  refine Met.ofW (cc := cJ0_coder_7d493) (maxL := 1) (ret := (some .byte)) (by decide) rfl ?_
  intro p e s m args below meth c s₁ B hml hv
  obtain ⟨rfl, hsz, hP, hK, hD0, hE⟩ := hv
  have hx := B.exec
  have hb := B.bytes
  have hr := B.returns
  have hts0 := atoms_spec (ws := Cond.code yJ0_coder_7d493 cJ0_coder_7d493 1 (some .byte) :: lw_G) B.pre
  have hG : ∀ w ∈ lw_G, w.before _ s = true := fun w h => hts0 w (List.mem_cons_of_mem _ h)
  have hown : s.vm.findClass RJ0 = some m.cls := findClass_of_methodNamed B.named
  have hlocks := B.notSynchronized
  subst hsz
  have hD := hD0.self (sz := s.heap.size)
  generalize hAe : va_A [] s.heap.size = A at hD hE ⊢
  have hA : ∀ q : Nat, s.heap.size ≤ q → A q := fun q h => by rw [← hAe]; exact Or.inr h
  have hS : va_S A s.heap s.heap [] := va_S.rf
  have hP : va_P (dC, dI) vwCl [] s.heap := hP
  have hl := lv_entry ([.ref (adK 0)]) (n := 1) (Nat.le_of_ble_eq_true rfl)
  rw [lg_entry_eq]
  generalize (lg_sl ([.ref (adK 0)]) ++ List.replicate (1 - (lg_sl ([.ref (adK 0)])).length) Slot.unset).toArray = ls at hl ⊢
  have hl : lv_has ls 1 [(0, .ref (adK 0))] := hl
  generalize ([.ref (adK 0)] : List Value).toArray = ar at hG ⊢
  refine wq (fun Q hQ => ?_)
  refine va_gets hx hb hE.2.1 hS hown (hG _ wd_243) (fun _ h9 => h9) dJ0_coder_7d493_0 ?_
  refine lv_if_eq (tgt := 13) hx hb dJ0_coder_7d493_3 (by decide) (fun c => absurd c (by decide)) (fun _ => ?_)
  refine lv_aload_n hx hb dJ0_coder_7d493_6 rfl (lv_at hl 0 rfl) ?_
  refine vk_getf hx hb (hE.1.1 0 (by decide)).2.1 hS hown (hG _ wd_1890) (fun _ h9 => h9) dJ0_coder_7d493_7 ?_
  refine lv_goto (tgt := 14) hx hb dJ0_coder_7d493_10 (by decide) ?_
  rw [hQ]
  obtain ⟨hP9, hD9⟩ := nv_sub2 (wc := []) hP hD [] (by decide) rfl
  have hK9 := hK.sub (tys' := []) [] rfl
  exact W.zret (v := 0) hx hb hr rfl (fun t ht hW => ⟨⟨0, (), rfl, ⟨rfl, trivial⟩, by rw [ht]; exact hP9, va_K.moved hW.alike hK9, hD9⟩, hS.F ht⟩) hS.2.2 dJ0_coder_7d493_14
set_option maxHeartbeats 100000000 in
set_option maxRecDepth 100000 in
theorem cJ0_length_8abf5_1 (l : Launch) (dC : Nat → ClassId) (dI : Nat → Nat → Nat) (adK adV : Nat → Nat) (sz : Nat) : Met l yJ0_length_8abf5 (Cond.code yJ0_length_8abf5 cJ0_length_8abf5 1 (some .int) :: lw_G) ({ frames := 1, cells := 0, slots := 0, locals := 20 }) (va_Pc [.ref (adK 0)] (fun U => U.heap.size = sz ∧ va_P (dC, dI) vwCl [] U.heap ∧ va_K (dC, dI) vwCl [] U ∧ va_D (fun _ => True) [] ∧ ev adK adV (va_A [] sz) U U.heap)) (va_Qi (fun (r : Int32) (u : Unit) => r = 140 ∧ True) (fun (u : Unit) (t : State) => va_P (dC, dI) vwCl [] t.heap ∧ va_K (dC, dI) vwCl [] t ∧ va_D (va_A [] sz) []) (va_A [] sz)) 0 0 (va_A [] sz) := by
  refine Met.ofW (cc := cJ0_length_8abf5) (maxL := 1) (ret := (some .int)) (by decide) rfl ?_
  intro p e s m args below meth c s₁ B hml hv
  obtain ⟨rfl, hsz, hP, hK, hD0, hE⟩ := hv
  have hx := B.exec
  have hb := B.bytes
  have hr := B.returns
  have hts0 := atoms_spec (ws := Cond.code yJ0_length_8abf5 cJ0_length_8abf5 1 (some .int) :: lw_G) B.pre
  have hG : ∀ w ∈ lw_G, w.before _ s = true := fun w h => hts0 w (List.mem_cons_of_mem _ h)
  have hown : s.vm.findClass RJ0 = some m.cls := findClass_of_methodNamed B.named
  have hlocks := B.notSynchronized
  subst hsz
  have hD := hD0.self (sz := s.heap.size)
  generalize hAe : va_A [] s.heap.size = A at hD hE ⊢
  have hA : ∀ q : Nat, s.heap.size ≤ q → A q := fun q h => by rw [← hAe]; exact Or.inr h
  have hS : va_S A s.heap s.heap [] := va_S.rf
  have hP : va_P (dC, dI) vwCl [] s.heap := hP
  have hl := lv_entry ([.ref (adK 0)]) (n := 1) (Nat.le_of_ble_eq_true rfl)
  rw [lg_entry_eq]
  generalize (lg_sl ([.ref (adK 0)]) ++ List.replicate (1 - (lg_sl ([.ref (adK 0)])).length) Slot.unset).toArray = ls at hl ⊢
  have hl : lv_has ls 1 [(0, .ref (adK 0))] := hl
  generalize ([.ref (adK 0)] : List Value).toArray = ar at hG ⊢
  refine wq (fun Q hQ => ?_)
  refine lv_aload_n hx hb dJ0_length_8abf5_0 rfl (lv_at hl 0 rfl) ?_
  refine vk_getf hx hb (hE.1.1 0 (by decide)).2.2.1 hS hown (hG _ wd_1889) (fun _ h9 => h9) dJ0_length_8abf5_1 ?_
  refine va_tlen (v := 140) hx hb (hE.1.1 0 (by decide)).2.2.2 hS (by decide) dJ0_length_8abf5_4 ?_
  refine lv_aload_n hx hb dJ0_length_8abf5_5 rfl (lv_at hl 0 rfl) ?_
  obtain ⟨hPc, hDc, hFc⟩ := nv_sub3 (wc := []) hP hD hS hA [] (by decide) rfl
  have hKc := hK.sub (tys' := []) [] rfl
  refine va_calli (va_runV (As := []) (rest := [.int 140]) ⟨hx, hb, hml, hown, hG⟩ (cJ0_coder_7d493_1 l dC dI adK adV s.heap.size) (cwV 0 hG (gV wd_239 wd_240 wd_241 wd_12 wd_242) rfl rfl rfl (by decide +kernel) ⟨Nat.le_of_ble_eq_true rfl, Nat.le_of_ble_eq_true rfl⟩) ⟨fun a U g mk q => by obtain ⟨q0, q1, qP, qK, qD, qE⟩ := q; exact ⟨q0, q1, qP, va_K.moved (u := U) (U := U.calling g mk a) (Vm.Alike.refl U.vm) qK, qD, qE.same rfl⟩, vk_recv hE.1 (i := 0) (by decide) hS, fun U hU hW => ⟨rfl, by rw [hU], by rw [hU]; exact hPc, va_K.moved hW.alike hKc, hDc.weaken (fun _ _ _ _ => trivial), by rw [hU]; exact ((hE.kept hS.2.1).narrow hFc).warm hW⟩⟩ rfl rfl hl.1 rfl (lv_room (Nat.le_of_ble_eq_true rfl)) dJ0_length_8abf5_6 ⟨by decide, by decide⟩) hS (fun q _ h => hFc q h) hFc (fun r1 u2 t H1 locs ht hvm hw hB hz1 hk1 hS => ?_)
  have hw : r1 = 0 ∧ True := hw
  obtain ⟨er1, -⟩ := hw
  obtain ⟨hP1, hK1, hD1⟩ := hB
  rw [ht] at hP1
  have hK1 := va_K.moved hvm.symm hK1
  obtain ⟨hP, hD⟩ := nv_join (wf := []) hP hD [] [] rfl rfl (by decide) (by decide) hk1 hFc hP1 hD1 rfl
  have hK := (hK.sub (tys' := []) [] rfl).app hK1
  generalize H1 = H at hP hS ⊢
  have hK : va_K (dC, dI) vwCl [] s := hK
  subst er1
  refine lv_ishr hx hb dJ0_length_8abf5_9 ?_
  refine lv_val (y := 140) (by decide +kernel) ?_
  rw [hQ]
  obtain ⟨hP9, hD9⟩ := nv_sub2 (wc := []) hP hD [] (by decide) rfl
  have hK9 := hK.sub (tys' := []) [] rfl
  exact W.iret (v := 140) hx hb hr (fun t ht hW => ⟨⟨140, (), rfl, ⟨rfl, trivial⟩, by rw [ht]; exact hP9, va_K.moved hW.alike hK9, hD9⟩, hS.F ht⟩) hS.2.2 dJ0_length_8abf5_10
set_option maxHeartbeats 100000000 in
set_option maxRecDepth 100000 in
theorem cJ0_isLatin1_aae02_1 (l : Launch) (dC : Nat → ClassId) (dI : Nat → Nat → Nat) (adK adV : Nat → Nat) (sz : Nat) : Met l yJ0_isLatin1_aae02 (Cond.code yJ0_isLatin1_aae02 cJ0_isLatin1_aae02 1 (some .boolean) :: lw_G) ({ frames := 0, cells := 0, slots := 0, locals := 0 }) (va_Pc [.ref (adK 0)] (fun U => U.heap.size = sz ∧ va_P (dC, dI) vwCl [] U.heap ∧ va_K (dC, dI) vwCl [] U ∧ va_D (fun _ => True) [] ∧ ev adK adV (va_A [] sz) U U.heap)) (va_Qi (fun (r : Int32) (u : Unit) => r = 1 ∧ True) (fun (u : Unit) (t : State) => va_P (dC, dI) vwCl [] t.heap ∧ va_K (dC, dI) vwCl [] t ∧ va_D (va_A [] sz) []) (va_A [] sz)) 0 0 (va_A [] sz) := by
  refine Met.ofW (cc := cJ0_isLatin1_aae02) (maxL := 1) (ret := (some .boolean)) (by decide) rfl ?_
  intro p e s m args below meth c s₁ B hml hv
  obtain ⟨rfl, hsz, hP, hK, hD0, hE⟩ := hv
  have hx := B.exec
  have hb := B.bytes
  have hr := B.returns
  have hts0 := atoms_spec (ws := Cond.code yJ0_isLatin1_aae02 cJ0_isLatin1_aae02 1 (some .boolean) :: lw_G) B.pre
  have hG : ∀ w ∈ lw_G, w.before _ s = true := fun w h => hts0 w (List.mem_cons_of_mem _ h)
  have hown : s.vm.findClass RJ0 = some m.cls := findClass_of_methodNamed B.named
  have hlocks := B.notSynchronized
  subst hsz
  have hD := hD0.self (sz := s.heap.size)
  generalize hAe : va_A [] s.heap.size = A at hD hE ⊢
  have hA : ∀ q : Nat, s.heap.size ≤ q → A q := fun q h => by rw [← hAe]; exact Or.inr h
  have hS : va_S A s.heap s.heap [] := va_S.rf
  have hP : va_P (dC, dI) vwCl [] s.heap := hP
  have hl := lv_entry ([.ref (adK 0)]) (n := 1) (Nat.le_of_ble_eq_true rfl)
  rw [lg_entry_eq]
  generalize (lg_sl ([.ref (adK 0)]) ++ List.replicate (1 - (lg_sl ([.ref (adK 0)])).length) Slot.unset).toArray = ls at hl ⊢
  have hl : lv_has ls 1 [(0, .ref (adK 0))] := hl
  generalize ([.ref (adK 0)] : List Value).toArray = ar at hG ⊢
  refine wq (fun Q hQ => ?_)
  refine va_gets hx hb hE.2.1 hS hown (hG _ wd_243) (fun _ h9 => h9) dJ0_isLatin1_aae02_0 ?_
  refine lv_if_eq (tgt := 17) hx hb dJ0_isLatin1_aae02_3 (by decide) (fun c => absurd c (by decide)) (fun _ => ?_)
  refine lv_aload_n hx hb dJ0_isLatin1_aae02_6 rfl (lv_at hl 0 rfl) ?_
  refine vk_getf hx hb (hE.1.1 0 (by decide)).2.1 hS hown (hG _ wd_1890) (fun _ h9 => h9) dJ0_isLatin1_aae02_7 ?_
  refine lv_if_ne (tgt := 17) hx hb dJ0_isLatin1_aae02_10 (by decide) (fun c => absurd (by decide) c) (fun _ => ?_)
  refine lv_iconst (v := 1) hx hb dJ0_isLatin1_aae02_13 (by decide) ?_
  refine lv_goto (tgt := 18) hx hb dJ0_isLatin1_aae02_14 (by decide) ?_
  rw [hQ]
  obtain ⟨hP9, hD9⟩ := nv_sub2 (wc := []) hP hD [] (by decide) rfl
  have hK9 := hK.sub (tys' := []) [] rfl
  exact W.zret (v := 1) hx hb hr rfl (fun t ht hW => ⟨⟨1, (), rfl, ⟨rfl, trivial⟩, by rw [ht]; exact hP9, va_K.moved hW.alike hK9, hD9⟩, hS.F ht⟩) hS.2.2 dJ0_isLatin1_aae02_18
set_option maxHeartbeats 100000000 in
set_option maxRecDepth 100000 in
theorem cJ3_checkIndex_8e157_1 (l : Launch) (dC : Nat → ClassId) (dI : Nat → Nat → Nat) (sz : Nat) (x0 : Int32) (ix0 : iv x0 0 139) : Met l yJ3_checkIndex_8e157 (Cond.code yJ3_checkIndex_8e157 cJ3_checkIndex_8e157 3 (some .int) :: lw_G) ({ frames := 0, cells := 0, slots := 0, locals := 0 }) (va_Pc [.int x0, .int 140, .null] (fun U => U.heap.size = sz ∧ va_P (dC, dI) vwCl [] U.heap ∧ va_K (dC, dI) vwCl [] U ∧ va_D (fun _ => True) [])) (va_Qi (fun (r : Int32) (u : Unit) => iv r 0 139 ∧ True) (fun (u : Unit) (t : State) => va_P (dC, dI) vwCl [] t.heap ∧ va_K (dC, dI) vwCl [] t ∧ va_D (va_A [] sz) []) (va_A [] sz)) 0 0 (va_A [] sz) := by
  refine Met.ofW (cc := cJ3_checkIndex_8e157) (maxL := 3) (ret := (some .int)) (by decide) rfl ?_
  intro p e s m args below meth c s₁ B hml hv
  obtain ⟨rfl, hsz, hP, hK, hD0⟩ := hv
  have hx := B.exec
  have hb := B.bytes
  have hr := B.returns
  have hts0 := atoms_spec (ws := Cond.code yJ3_checkIndex_8e157 cJ3_checkIndex_8e157 3 (some .int) :: lw_G) B.pre
  have hG : ∀ w ∈ lw_G, w.before _ s = true := fun w h => hts0 w (List.mem_cons_of_mem _ h)
  have hown : s.vm.findClass RJ3 = some m.cls := findClass_of_methodNamed B.named
  have hlocks := B.notSynchronized
  subst hsz
  have hD := hD0.self (sz := s.heap.size)
  generalize hAe : va_A [] s.heap.size = A at hD ⊢
  have hA : ∀ q : Nat, s.heap.size ≤ q → A q := fun q h => by rw [← hAe]; exact Or.inr h
  have hS : va_S A s.heap s.heap [] := va_S.rf
  have hP : va_P (dC, dI) vwCl [] s.heap := hP
  have hl := lv_entry ([.int x0, .int 140, .null]) (n := 3) (Nat.le_of_ble_eq_true rfl)
  rw [lg_entry_eq]
  generalize (lg_sl ([.int x0, .int 140, .null]) ++ List.replicate (3 - (lg_sl ([.int x0, .int 140, .null])).length) Slot.unset).toArray = ls at hl ⊢
  have hl : lv_has ls 3 [(0, .int x0), (1, .int 140), (2, .null)] := hl
  generalize ([.int x0, .int 140, .null] : List Value).toArray = ar at hG ⊢
  refine wq (fun Q hQ => ?_)
  refine lv_iload_n hx hb dJ3_checkIndex_8e157_0 rfl (lv_at hl 0 rfl) ?_
  refine lv_if_lt (tgt := 9) hx hb dJ3_checkIndex_8e157_1 (by decide) (fun c => absurd c (iv_nlt ix0 (by decide : iv 0 0 0) (by decide))) (fun _ => ?_)
  refine lv_iload_n hx hb dJ3_checkIndex_8e157_4 rfl (lv_at hl 0 rfl) ?_
  refine lv_iload_n hx hb dJ3_checkIndex_8e157_5 rfl (lv_at hl 1 rfl) ?_
  refine lv_icmp_lt (tgt := 16) hx hb dJ3_checkIndex_8e157_6 (by decide) (fun _ => ?_) (fun c => absurd (iv_lt ix0 (by decide : iv 140 140 140) (by decide)) c)
  refine lv_iload_n hx hb dJ3_checkIndex_8e157_16 rfl (lv_at hl 0 rfl) ?_
  rw [hQ]
  obtain ⟨hP9, hD9⟩ := nv_sub2 (wc := []) hP hD [] (by decide) rfl
  have hK9 := hK.sub (tys' := []) [] rfl
  exact W.iret (v := x0) hx hb hr (fun t ht hW => ⟨⟨x0, (), rfl, ⟨iv_w ix0 (by decide) (by decide), trivial⟩, by rw [ht]; exact hP9, va_K.moved hW.alike hK9, hD9⟩, hS.F ht⟩) hS.2.2 dJ3_checkIndex_8e157_17
set_option maxHeartbeats 100000000 in
set_option maxRecDepth 100000 in
theorem cJ3_checkIndex_8e157_2 (l : Launch) (dC : Nat → ClassId) (dI : Nat → Nat → Nat) (h0 : Nat) (sz : Nat) (x0 : Int32) (ix0 : iv x0 0 139) : Met l yJ3_checkIndex_8e157 (Cond.code yJ3_checkIndex_8e157 cJ3_checkIndex_8e157 3 (some .int) :: lw_G) ({ frames := 0, cells := 0, slots := 0, locals := 0 }) (va_Pc [.int x0, .int 140, .ref h0] (fun U => U.heap.size = sz ∧ va_P (dC, dI) vwCl [] U.heap ∧ va_K (dC, dI) vwCl [] U ∧ va_D (fun _ => True) [])) (va_Qi (fun (r : Int32) (u : Unit) => iv r 0 139 ∧ True) (fun (u : Unit) (t : State) => va_P (dC, dI) vwCl [] t.heap ∧ va_K (dC, dI) vwCl [] t ∧ va_D (va_A [] sz) []) (va_A [] sz)) 0 0 (va_A [] sz) := by
  refine Met.ofW (cc := cJ3_checkIndex_8e157) (maxL := 3) (ret := (some .int)) (by decide) rfl ?_
  intro p e s m args below meth c s₁ B hml hv
  obtain ⟨rfl, hsz, hP, hK, hD0⟩ := hv
  have hx := B.exec
  have hb := B.bytes
  have hr := B.returns
  have hts0 := atoms_spec (ws := Cond.code yJ3_checkIndex_8e157 cJ3_checkIndex_8e157 3 (some .int) :: lw_G) B.pre
  have hG : ∀ w ∈ lw_G, w.before _ s = true := fun w h => hts0 w (List.mem_cons_of_mem _ h)
  have hown : s.vm.findClass RJ3 = some m.cls := findClass_of_methodNamed B.named
  have hlocks := B.notSynchronized
  subst hsz
  have hD := hD0.self (sz := s.heap.size)
  generalize hAe : va_A [] s.heap.size = A at hD ⊢
  have hA : ∀ q : Nat, s.heap.size ≤ q → A q := fun q h => by rw [← hAe]; exact Or.inr h
  have hS : va_S A s.heap s.heap [] := va_S.rf
  have hP : va_P (dC, dI) vwCl [] s.heap := hP
  have hl := lv_entry ([.int x0, .int 140, .ref h0]) (n := 3) (Nat.le_of_ble_eq_true rfl)
  rw [lg_entry_eq]
  generalize (lg_sl ([.int x0, .int 140, .ref h0]) ++ List.replicate (3 - (lg_sl ([.int x0, .int 140, .ref h0])).length) Slot.unset).toArray = ls at hl ⊢
  have hl : lv_has ls 3 [(0, .int x0), (1, .int 140), (2, .ref h0)] := hl
  generalize ([.int x0, .int 140, .ref h0] : List Value).toArray = ar at hG ⊢
  refine wq (fun Q hQ => ?_)
  refine lv_iload_n hx hb dJ3_checkIndex_8e157_0 rfl (lv_at hl 0 rfl) ?_
  refine lv_if_lt (tgt := 9) hx hb dJ3_checkIndex_8e157_1 (by decide) (fun c => absurd c (iv_nlt ix0 (by decide : iv 0 0 0) (by decide))) (fun _ => ?_)
  refine lv_iload_n hx hb dJ3_checkIndex_8e157_4 rfl (lv_at hl 0 rfl) ?_
  refine lv_iload_n hx hb dJ3_checkIndex_8e157_5 rfl (lv_at hl 1 rfl) ?_
  refine lv_icmp_lt (tgt := 16) hx hb dJ3_checkIndex_8e157_6 (by decide) (fun _ => ?_) (fun c => absurd (iv_lt ix0 (by decide : iv 140 140 140) (by decide)) c)
  refine lv_iload_n hx hb dJ3_checkIndex_8e157_16 rfl (lv_at hl 0 rfl) ?_
  rw [hQ]
  obtain ⟨hP9, hD9⟩ := nv_sub2 (wc := []) hP hD [] (by decide) rfl
  have hK9 := hK.sub (tys' := []) [] rfl
  exact W.iret (v := x0) hx hb hr (fun t ht hW => ⟨⟨x0, (), rfl, ⟨iv_w ix0 (by decide) (by decide), trivial⟩, by rw [ht]; exact hP9, va_K.moved hW.alike hK9, hD9⟩, hS.F ht⟩) hS.2.2 dJ3_checkIndex_8e157_17
set_option maxHeartbeats 100000000 in
set_option maxRecDepth 100000 in
theorem cJ0_checkIndex_df160_1 (l : Launch) (dC : Nat → ClassId) (dI : Nat → Nat → Nat) (adK adV : Nat → Nat) (sz : Nat) (x0 : Int32) (ix0 : iv x0 0 139) : Met l yJ0_checkIndex_df160 (Cond.code yJ0_checkIndex_df160 cJ0_checkIndex_df160 2 none :: lw_G) ({ frames := 1, cells := 0, slots := 0, locals := 22 }) (va_Pc [.int x0, .int 140] (fun U => U.heap.size = sz ∧ va_P (dC, dI) vwCl [] U.heap ∧ va_K (dC, dI) vwCl [] U ∧ va_D (fun _ => True) [] ∧ ev adK adV (va_A [] sz) U U.heap)) (va_Qv (fun (u : Unit) => True) (fun (u : Unit) (t : State) => va_P (dC, dI) vwCl [] t.heap ∧ va_K (dC, dI) vwCl [] t ∧ va_D (va_A [] sz) []) (va_A [] sz)) 0 0 (va_A [] sz) := by
  refine Met.ofW (cc := cJ0_checkIndex_df160) (maxL := 2) (ret := none) (by decide) rfl ?_
  intro p e s m args below meth c s₁ B hml hv
  obtain ⟨rfl, hsz, hP, hK, hD0, hE⟩ := hv
  have hx := B.exec
  have hb := B.bytes
  have hr := B.returns
  have hts0 := atoms_spec (ws := Cond.code yJ0_checkIndex_df160 cJ0_checkIndex_df160 2 none :: lw_G) B.pre
  have hG : ∀ w ∈ lw_G, w.before _ s = true := fun w h => hts0 w (List.mem_cons_of_mem _ h)
  have hown : s.vm.findClass RJ0 = some m.cls := findClass_of_methodNamed B.named
  have hlocks := B.notSynchronized
  subst hsz
  have hD := hD0.self (sz := s.heap.size)
  generalize hAe : va_A [] s.heap.size = A at hD hE ⊢
  have hA : ∀ q : Nat, s.heap.size ≤ q → A q := fun q h => by rw [← hAe]; exact Or.inr h
  have hS : va_S A s.heap s.heap [] := va_S.rf
  have hP : va_P (dC, dI) vwCl [] s.heap := hP
  have hl := lv_entry ([.int x0, .int 140]) (n := 2) (Nat.le_of_ble_eq_true rfl)
  rw [lg_entry_eq]
  generalize (lg_sl ([.int x0, .int 140]) ++ List.replicate (2 - (lg_sl ([.int x0, .int 140])).length) Slot.unset).toArray = ls at hl ⊢
  have hl : lv_has ls 2 [(0, .int x0), (1, .int 140)] := hl
  generalize ([.int x0, .int 140] : List Value).toArray = ar at hG ⊢
  refine wq (fun Q hQ => ?_)
  refine lv_iload_n hx hb dJ0_checkIndex_df160_0 rfl (lv_at hl 0 rfl) ?_
  refine lv_iload_n hx hb dJ0_checkIndex_df160_1 rfl (lv_at hl 1 rfl) ?_
  rcases hE.2.2.1 with hZ | ⟨t1, hZ⟩
  · skip
    refine va_gets hx hb hZ hS hown (hG _ wd_259) (fun _ h9 => h9) dJ0_checkIndex_df160_2 ?_
    obtain ⟨hPc, hDc, hFc⟩ := nv_sub3 (wc := []) hP hD hS hA [] (by decide) rfl
    have hKc := hK.sub (tys' := []) [] rfl
    refine va_calli (va_runS (As := [.int x0, .int 140, .null]) (rest := []) ⟨hx, hb, hml, hown, hG⟩ (cJ3_checkIndex_8e157_1 l dC dI s.heap.size x0 ix0) (va_cwS 3 hG (gS wd_261 wd_262 wd_14 wd_263) rfl rfl rfl (by decide +kernel) ⟨Nat.le_of_ble_eq_true rfl, Nat.le_of_ble_eq_true rfl⟩) ⟨fun a U g mk q => by obtain ⟨q0, q1, qP, qK, qD⟩ := q; exact ⟨q0, q1, qP, va_K.moved (u := U) (U := U.calling g mk a) (Vm.Alike.refl U.vm) qK, qD⟩, fun U hU hW => ⟨rfl, by rw [hU], by rw [hU]; exact hPc, va_K.moved hW.alike hKc, hDc.weaken (fun _ _ _ _ => trivial)⟩⟩ rfl rfl hl.1 rfl (lv_room (Nat.le_of_ble_eq_true rfl)) dJ0_checkIndex_df160_5 ⟨by decide, by decide⟩) hS (fun q _ h => hFc q h) hFc (fun r2 u3 t H1 locs ht hvm hw hB hz1 hk1 hS => ?_)
    have hw : iv r2 0 139 ∧ True := hw
    obtain ⟨ir2, -⟩ := hw
    obtain ⟨hP1, hK1, hD1⟩ := hB
    rw [ht] at hP1
    have hK1 := va_K.moved hvm.symm hK1
    obtain ⟨hP, hD⟩ := nv_join (wf := []) hP hD [] [] rfl rfl (by decide) (by decide) hk1 hFc hP1 hD1 rfl
    have hK := (hK.sub (tys' := []) [] rfl).app hK1
    generalize H1 = H at hP hS ⊢
    have hK : va_K (dC, dI) vwCl [] s := hK
    refine lv_pop hx hb dJ0_checkIndex_df160_8 rfl ?_
    rw [hQ]
    obtain ⟨hP9, hD9⟩ := nv_sub2 (wc := []) hP hD [] (by decide) rfl
    have hK9 := hK.sub (tys' := []) [] rfl
    exact W.vret hx hb hr (fun t ht hW => ⟨⟨(), rfl, trivial, by rw [ht]; exact hP9, va_K.moved hW.alike hK9, hD9⟩, hS.F ht⟩) hS.2.2 dJ0_checkIndex_df160_9
  · skip
    refine va_gets hx hb hZ hS hown (hG _ wd_259) (fun _ h9 => h9) dJ0_checkIndex_df160_2 ?_
    obtain ⟨hPc, hDc, hFc⟩ := nv_sub3 (wc := []) hP hD hS hA [] (by decide) rfl
    have hKc := hK.sub (tys' := []) [] rfl
    refine va_calli (va_runS (As := [.int x0, .int 140, .ref t1]) (rest := []) ⟨hx, hb, hml, hown, hG⟩ (cJ3_checkIndex_8e157_2 l dC dI t1 s.heap.size x0 ix0) (va_cwS 3 hG (gS wd_261 wd_262 wd_14 wd_263) rfl rfl rfl (by decide +kernel) ⟨Nat.le_of_ble_eq_true rfl, Nat.le_of_ble_eq_true rfl⟩) ⟨fun a U g mk q => by obtain ⟨q0, q1, qP, qK, qD⟩ := q; exact ⟨q0, q1, qP, va_K.moved (u := U) (U := U.calling g mk a) (Vm.Alike.refl U.vm) qK, qD⟩, fun U hU hW => ⟨rfl, by rw [hU], by rw [hU]; exact hPc, va_K.moved hW.alike hKc, hDc.weaken (fun _ _ _ _ => trivial)⟩⟩ rfl rfl hl.1 rfl (lv_room (Nat.le_of_ble_eq_true rfl)) dJ0_checkIndex_df160_5 ⟨by decide, by decide⟩) hS (fun q _ h => hFc q h) hFc (fun r4 u5 t H1 locs ht hvm hw hB hz1 hk1 hS => ?_)
    have hw : iv r4 0 139 ∧ True := hw
    obtain ⟨ir4, -⟩ := hw
    obtain ⟨hP1, hK1, hD1⟩ := hB
    rw [ht] at hP1
    have hK1 := va_K.moved hvm.symm hK1
    obtain ⟨hP, hD⟩ := nv_join (wf := []) hP hD [] [] rfl rfl (by decide) (by decide) hk1 hFc hP1 hD1 rfl
    have hK := (hK.sub (tys' := []) [] rfl).app hK1
    generalize H1 = H at hP hS ⊢
    have hK : va_K (dC, dI) vwCl [] s := hK
    refine lv_pop hx hb dJ0_checkIndex_df160_8 rfl ?_
    rw [hQ]
    obtain ⟨hP9, hD9⟩ := nv_sub2 (wc := []) hP hD [] (by decide) rfl
    have hK9 := hK.sub (tys' := []) [] rfl
    exact W.vret hx hb hr (fun t ht hW => ⟨⟨(), rfl, trivial, by rw [ht]; exact hP9, va_K.moved hW.alike hK9, hD9⟩, hS.F ht⟩) hS.2.2 dJ0_checkIndex_df160_9
set_option maxHeartbeats 100000000 in
set_option maxRecDepth 100000 in
theorem cJ1_charAt_3b067_1 (l : Launch) (dC : Nat → ClassId) (dI : Nat → Nat → Nat) (adK adV : Nat → Nat) (sz : Nat) (x0 : Int32) (ix0 : iv x0 0 139) : Met l yJ1_charAt_3b067 (Cond.code yJ1_charAt_3b067 cJ1_charAt_3b067 2 (some .char) :: lw_G) ({ frames := 2, cells := 0, slots := 0, locals := 43 }) (va_Pc [.ref (adV 0), .int x0] (fun U => U.heap.size = sz ∧ va_P (dC, dI) vwCl [] U.heap ∧ va_K (dC, dI) vwCl [] U ∧ va_D (fun _ => True) [] ∧ ev adK adV (va_A [] sz) U U.heap)) (va_Qi (fun (r : Int32) (u : Unit) => iv r 0 65535 ∧ True) (fun (u : Unit) (t : State) => va_P (dC, dI) vwCl [] t.heap ∧ va_K (dC, dI) vwCl [] t ∧ va_D (va_A [] sz) []) (va_A [] sz)) 0 0 (va_A [] sz) := by
  refine Met.ofW (cc := cJ1_charAt_3b067) (maxL := 2) (ret := (some .char)) (by decide) rfl ?_
  intro p e s m args below meth c s₁ B hml hv
  obtain ⟨rfl, hsz, hP, hK, hD0, hE⟩ := hv
  have hx := B.exec
  have hb := B.bytes
  have hr := B.returns
  have hts0 := atoms_spec (ws := Cond.code yJ1_charAt_3b067 cJ1_charAt_3b067 2 (some .char) :: lw_G) B.pre
  have hG : ∀ w ∈ lw_G, w.before _ s = true := fun w h => hts0 w (List.mem_cons_of_mem _ h)
  have hown : s.vm.findClass RJ1 = some m.cls := findClass_of_methodNamed B.named
  have hlocks := B.notSynchronized
  subst hsz
  have hD := hD0.self (sz := s.heap.size)
  generalize hAe : va_A [] s.heap.size = A at hD hE ⊢
  have hA : ∀ q : Nat, s.heap.size ≤ q → A q := fun q h => by rw [← hAe]; exact Or.inr h
  have hS : va_S A s.heap s.heap [] := va_S.rf
  have hP : va_P (dC, dI) vwCl [] s.heap := hP
  have hl := lv_entry ([.ref (adV 0), .int x0]) (n := 2) (Nat.le_of_ble_eq_true rfl)
  rw [lg_entry_eq]
  generalize (lg_sl ([.ref (adV 0), .int x0]) ++ List.replicate (2 - (lg_sl ([.ref (adV 0), .int x0])).length) Slot.unset).toArray = ls at hl ⊢
  have hl : lv_has ls 2 [(0, .ref (adV 0)), (1, .int x0)] := hl
  generalize ([.ref (adV 0), .int x0] : List Value).toArray = ar at hG ⊢
  refine wq (fun Q hQ => ?_)
  refine lv_iload_n hx hb dJ1_charAt_3b067_0 rfl (lv_at hl 1 rfl) ?_
  refine lv_aload_n hx hb dJ1_charAt_3b067_1 rfl (lv_at hl 0 rfl) ?_
  refine va_tlen (v := 140) hx hb (hE.1.1 0 (by decide)).2.2.2 hS (by decide) dJ1_charAt_3b067_2 ?_
  obtain ⟨hPc, hDc, hFc⟩ := nv_sub3 (wc := []) hP hD hS hA [] (by decide) rfl
  have hKc := hK.sub (tys' := []) [] rfl
  refine va_callv (va_runS (As := [.int x0, .int 140]) (rest := []) ⟨hx, hb, hml, hown, hG⟩ (cJ0_checkIndex_df160_1 l dC dI adK adV s.heap.size x0 ix0) (va_cwS 2 hG (gS wd_256 wd_257 wd_12 wd_258) rfl rfl rfl (by decide +kernel) ⟨Nat.le_of_ble_eq_true rfl, Nat.le_of_ble_eq_true rfl⟩) ⟨fun a U g mk q => by obtain ⟨q0, q1, qP, qK, qD, qE⟩ := q; exact ⟨q0, q1, qP, va_K.moved (u := U) (U := U.calling g mk a) (Vm.Alike.refl U.vm) qK, qD, qE.same rfl⟩, fun U hU hW => ⟨rfl, by rw [hU], by rw [hU]; exact hPc, va_K.moved hW.alike hKc, hDc.weaken (fun _ _ _ _ => trivial), by rw [hU]; exact ((hE.kept hS.2.1).narrow hFc).warm hW⟩⟩ rfl rfl hl.1 rfl (lv_room (Nat.le_of_ble_eq_true rfl)) dJ1_charAt_3b067_3 ⟨by decide, by decide⟩) hS (fun q _ h => hFc q h) hFc (fun u2 t H1 locs ht hvm hw hB hz1 hk1 hS => ?_)
  obtain ⟨hP1, hK1, hD1⟩ := hB
  rw [ht] at hP1
  have hK1 := va_K.moved hvm.symm hK1
  obtain ⟨hP, hD⟩ := nv_join (wf := []) hP hD [] [] rfl rfl (by decide) (by decide) hk1 hFc hP1 hD1 rfl
  have hK := (hK.sub (tys' := []) [] rfl).app hK1
  generalize H1 = H at hP hS ⊢
  have hK : va_K (dC, dI) vwCl [] s := hK
  refine lv_aload_n hx hb dJ1_charAt_3b067_6 rfl (lv_at hl 0 rfl) ?_
  refine lv_iload_n hx hb dJ1_charAt_3b067_7 rfl (lv_at hl 1 rfl) ?_
  refine va_tb (v := .int ((bytS.getD 0 []).getD x0.toNatClampNeg 0)) hx hb (hE.1.1 0 (by decide)).2.2.2 hS (iv_in ix0 (by decide) (by decide) : vp_in x0 140) rfl dJ1_charAt_3b067_8 ?_
  refine lv_topi (fun v3 ev3 => ?_)
  refine lv_sipush (v := 255) hx hb dJ1_charAt_3b067_9 (by decide) ?_
  refine lv_iand hx hb dJ1_charAt_3b067_12 ?_
  refine lv_topi (fun v4 ev4 => ?_)
  have iv4 : iv v4 0 255 := iv_eq ev4 (iv_and (x := v3) (iv_w (by decide : iv 255 255 255) (by decide) (by decide) : iv 255 0 255))
  refine lv_i2c (v := _) hx hb dJ1_charAt_3b067_13 rfl ?_
  refine lv_topi (fun v5 ev5 => ?_)
  have iv5 : iv v5 0 65535 := iv_eq ev5 (iv_i2c _)
  rw [hQ]
  obtain ⟨hP9, hD9⟩ := nv_sub2 (wc := []) hP hD [] (by decide) rfl
  have hK9 := hK.sub (tys' := []) [] rfl
  exact W.zret (v := v5) hx hb hr (iv_ch (iv_w iv5 (by decide) (by decide))) (fun t ht hW => ⟨⟨v5, (), rfl, ⟨iv_w iv5 (by decide) (by decide), trivial⟩, by rw [ht]; exact hP9, va_K.moved hW.alike hK9, hD9⟩, hS.F ht⟩) hS.2.2 dJ1_charAt_3b067_14
set_option maxHeartbeats 100000000 in
set_option maxRecDepth 100000 in
theorem cJ0_charAt_5068e_1 (l : Launch) (dC : Nat → ClassId) (dI : Nat → Nat → Nat) (adK adV : Nat → Nat) (sz : Nat) (x0 : Int32) (ix0 : iv x0 0 139) : Met l yJ0_charAt_5068e (Cond.code yJ0_charAt_5068e cJ0_charAt_5068e 2 (some .char) :: lw_G) ({ frames := 3, cells := 0, slots := 0, locals := 64 }) (va_Pc [.ref (adK 0), .int x0] (fun U => U.heap.size = sz ∧ va_P (dC, dI) vwCl [] U.heap ∧ va_K (dC, dI) vwCl [] U ∧ va_D (fun _ => True) [] ∧ ev adK adV (va_A [] sz) U U.heap)) (va_Qi (fun (r : Int32) (u : Unit) => iv r 0 65535 ∧ True) (fun (u : Unit) (t : State) => va_P (dC, dI) vwCl [] t.heap ∧ va_K (dC, dI) vwCl [] t ∧ va_D (va_A [] sz) []) (va_A [] sz)) 0 0 (va_A [] sz) := by
  refine Met.ofW (cc := cJ0_charAt_5068e) (maxL := 2) (ret := (some .char)) (by decide) rfl ?_
  intro p e s m args below meth c s₁ B hml hv
  obtain ⟨rfl, hsz, hP, hK, hD0, hE⟩ := hv
  have hx := B.exec
  have hb := B.bytes
  have hr := B.returns
  have hts0 := atoms_spec (ws := Cond.code yJ0_charAt_5068e cJ0_charAt_5068e 2 (some .char) :: lw_G) B.pre
  have hG : ∀ w ∈ lw_G, w.before _ s = true := fun w h => hts0 w (List.mem_cons_of_mem _ h)
  have hown : s.vm.findClass RJ0 = some m.cls := findClass_of_methodNamed B.named
  have hlocks := B.notSynchronized
  subst hsz
  have hD := hD0.self (sz := s.heap.size)
  generalize hAe : va_A [] s.heap.size = A at hD hE ⊢
  have hA : ∀ q : Nat, s.heap.size ≤ q → A q := fun q h => by rw [← hAe]; exact Or.inr h
  have hS : va_S A s.heap s.heap [] := va_S.rf
  have hP : va_P (dC, dI) vwCl [] s.heap := hP
  have hl := lv_entry ([.ref (adK 0), .int x0]) (n := 2) (Nat.le_of_ble_eq_true rfl)
  rw [lg_entry_eq]
  generalize (lg_sl ([.ref (adK 0), .int x0]) ++ List.replicate (2 - (lg_sl ([.ref (adK 0), .int x0])).length) Slot.unset).toArray = ls at hl ⊢
  have hl : lv_has ls 2 [(0, .ref (adK 0)), (1, .int x0)] := hl
  generalize ([.ref (adK 0), .int x0] : List Value).toArray = ar at hG ⊢
  refine wq (fun Q hQ => ?_)
  refine lv_aload_n hx hb dJ0_charAt_5068e_0 rfl (lv_at hl 0 rfl) ?_
  obtain ⟨hPc, hDc, hFc⟩ := nv_sub3 (wc := []) hP hD hS hA [] (by decide) rfl
  have hKc := hK.sub (tys' := []) [] rfl
  refine va_calli (va_runV (As := []) (rest := []) ⟨hx, hb, hml, hown, hG⟩ (cJ0_isLatin1_aae02_1 l dC dI adK adV s.heap.size) (cwV 0 hG (gV wd_249 wd_250 wd_251 wd_12 wd_252) rfl rfl rfl (by decide +kernel) ⟨Nat.le_of_ble_eq_true rfl, Nat.le_of_ble_eq_true rfl⟩) ⟨fun a U g mk q => by obtain ⟨q0, q1, qP, qK, qD, qE⟩ := q; exact ⟨q0, q1, qP, va_K.moved (u := U) (U := U.calling g mk a) (Vm.Alike.refl U.vm) qK, qD, qE.same rfl⟩, vk_recv hE.1 (i := 0) (by decide) hS, fun U hU hW => ⟨rfl, by rw [hU], by rw [hU]; exact hPc, va_K.moved hW.alike hKc, hDc.weaken (fun _ _ _ _ => trivial), by rw [hU]; exact ((hE.kept hS.2.1).narrow hFc).warm hW⟩⟩ rfl rfl hl.1 rfl (lv_room (Nat.le_of_ble_eq_true rfl)) dJ0_charAt_5068e_1 ⟨by decide, by decide⟩) hS (fun q _ h => hFc q h) hFc (fun r1 u2 t H1 locs ht hvm hw hB hz1 hk1 hS => ?_)
  have hw : r1 = 1 ∧ True := hw
  obtain ⟨er1, -⟩ := hw
  obtain ⟨hP1, hK1, hD1⟩ := hB
  rw [ht] at hP1
  have hK1 := va_K.moved hvm.symm hK1
  obtain ⟨hP, hD⟩ := nv_join (wf := []) hP hD [] [] rfl rfl (by decide) (by decide) hk1 hFc hP1 hD1 rfl
  have hK := (hK.sub (tys' := []) [] rfl).app hK1
  generalize H1 = H at hP hS ⊢
  have hK : va_K (dC, dI) vwCl [] s := hK
  subst er1
  refine lv_if_eq (tgt := 16) hx hb dJ0_charAt_5068e_4 (by decide) (fun c => absurd c (by decide)) (fun _ => ?_)
  refine lv_aload_n hx hb dJ0_charAt_5068e_7 rfl (lv_at hl 0 rfl) ?_
  refine vk_getf hx hb (hE.1.1 0 (by decide)).2.2.1 hS hown (hG _ wd_1889) (fun _ h9 => h9) dJ0_charAt_5068e_8 ?_
  refine lv_iload_n hx hb dJ0_charAt_5068e_11 rfl (lv_at hl 1 rfl) ?_
  obtain ⟨hPc, hDc, hFc⟩ := nv_sub3 (wc := []) hP hD hS hA [] (by decide) rfl
  have hKc := hK.sub (tys' := []) [] rfl
  refine va_calli (va_runS (As := [.ref (adV 0), .int x0]) (rest := []) ⟨hx, hb, hml, hown, hG⟩ (cJ1_charAt_3b067_1 l dC dI adK adV H.size x0 ix0) (va_cwS 2 hG (gS wd_253 wd_254 wd_13 wd_255) rfl rfl rfl (by decide +kernel) ⟨Nat.le_of_ble_eq_true rfl, Nat.le_of_ble_eq_true rfl⟩) ⟨fun a U g mk q => by obtain ⟨q0, q1, qP, qK, qD, qE⟩ := q; exact ⟨q0, q1, qP, va_K.moved (u := U) (U := U.calling g mk a) (Vm.Alike.refl U.vm) qK, qD, qE.same rfl⟩, fun U hU hW => ⟨rfl, by rw [hU], by rw [hU]; exact hPc, va_K.moved hW.alike hKc, hDc.weaken (fun _ _ _ _ => trivial), by rw [hU]; exact ((hE.kept hS.2.1).narrow hFc).warm hW⟩⟩ rfl rfl hl.1 rfl (lv_room (Nat.le_of_ble_eq_true rfl)) dJ0_charAt_5068e_12 ⟨by decide, by decide⟩) hS (fun q _ h => hFc q h) hFc (fun r3 u4 t H1 locs ht hvm hw hB hz1 hk1 hS => ?_)
  have hw : iv r3 0 65535 ∧ True := hw
  obtain ⟨ir3, -⟩ := hw
  obtain ⟨hP1, hK1, hD1⟩ := hB
  rw [ht] at hP1
  have hK1 := va_K.moved hvm.symm hK1
  obtain ⟨hP, hD⟩ := nv_join (wf := []) hP hD [] [] rfl rfl (by decide) (by decide) hk1 hFc hP1 hD1 rfl
  have hK := (hK.sub (tys' := []) [] rfl).app hK1
  generalize H1 = H at hP hS ⊢
  have hK : va_K (dC, dI) vwCl [] s := hK
  rw [hQ]
  obtain ⟨hP9, hD9⟩ := nv_sub2 (wc := []) hP hD [] (by decide) rfl
  have hK9 := hK.sub (tys' := []) [] rfl
  exact W.zret (v := r3) hx hb hr (iv_ch (iv_w ir3 (by decide) (by decide))) (fun t ht hW => ⟨⟨r3, (), rfl, ⟨iv_w ir3 (by decide) (by decide), trivial⟩, by rw [ht]; exact hP9, va_K.moved hW.alike hK9, hD9⟩, hS.F ht⟩) hS.2.2 dJ0_charAt_5068e_15
set_option maxHeartbeats 100000000 in
set_option maxRecDepth 100000 in
theorem cX10_nameSign_1 (l : Launch) (dC : Nat → ClassId) (dI : Nat → Nat → Nat) (adK adV : Nat → Nat) (sz : Nat) (x0 x1 : Int32) : Met l yX10_nameSign (Cond.code yX10_nameSign cX10_nameSign 3 (some .int) :: lw_G) ({ frames := 4, cells := 0, slots := 0, locals := 85 }) (va_Pc [.int x0, .int x1] (fun U => U.heap.size = sz ∧ va_P (dC, dI) vwCl [] U.heap ∧ va_K (dC, dI) vwCl [] U ∧ va_D (fun _ => True) [] ∧ ev adK adV (va_A [] sz) U U.heap)) (va_Qi (fun (r : Int32) (u : Unit) => iv r 0 65535 ∧ True) (fun (u : Unit) (t : State) => va_P (dC, dI) vwCl [] t.heap ∧ va_K (dC, dI) vwCl [] t ∧ va_D (va_A [] sz) []) (va_A [] sz)) 0 0 (va_A [] sz) := by
  refine Met.ofW (cc := cX10_nameSign) (maxL := 3) (ret := (some .int)) (by decide) rfl ?_
  intro p e s m args below meth c s₁ B hml hv
  obtain ⟨rfl, hsz, hP, hK, hD0, hE⟩ := hv
  have hx := B.exec
  have hb := B.bytes
  have hr := B.returns
  have hts0 := atoms_spec (ws := Cond.code yX10_nameSign cX10_nameSign 3 (some .int) :: lw_G) B.pre
  have hG : ∀ w ∈ lw_G, w.before _ s = true := fun w h => hts0 w (List.mem_cons_of_mem _ h)
  have hown : s.vm.findClass RX10 = some m.cls := findClass_of_methodNamed B.named
  have hlocks := B.notSynchronized
  subst hsz
  have hD := hD0.self (sz := s.heap.size)
  generalize hAe : va_A [] s.heap.size = A at hD hE ⊢
  have hA : ∀ q : Nat, s.heap.size ≤ q → A q := fun q h => by rw [← hAe]; exact Or.inr h
  have hS : va_S A s.heap s.heap [] := va_S.rf
  have hP : va_P (dC, dI) vwCl [] s.heap := hP
  have hl := lv_entry ([.int x0, .int x1]) (n := 3) (Nat.le_of_ble_eq_true rfl)
  rw [lg_entry_eq]
  generalize (lg_sl ([.int x0, .int x1]) ++ List.replicate (3 - (lg_sl ([.int x0, .int x1])).length) Slot.unset).toArray = ls at hl ⊢
  have hl : lv_has ls 3 [(0, .int x0), (1, .int x1)] := hl
  generalize ([.int x0, .int x1] : List Value).toArray = ar at hG ⊢
  refine wq (fun Q hQ => ?_)
  refine lv_iload_n hx hb dX10_nameSign_0 rfl (lv_at hl 0 rfl) ?_
  refine lv_iconst (v := 4) hx hb dX10_nameSign_1 (by decide) ?_
  refine lv_imul hx hb dX10_nameSign_2 ?_
  refine lv_topi (fun v1 ev1 => ?_)
  refine lv_iload_n hx hb dX10_nameSign_3 rfl (lv_at hl 1 rfl) ?_
  refine lv_iadd hx hb dX10_nameSign_4 ?_
  refine lv_topi (fun v2 ev2 => ?_)
  refine lv_istore_n (lv' := [(2, .int v2), (0, .int x0), (1, .int x1)]) hx hb dX10_nameSign_5 rfl hl (by decide) rfl (fun ls hl => ?_)
  refine lv_iload_n hx hb dX10_nameSign_6 rfl (lv_at hl 2 rfl) ?_
  refine lv_iconst (v := 4) hx hb dX10_nameSign_7 (by decide) ?_
  refine jcut (a := ∀ (b16 : Int32) (ib16 : iv b16 0 65535) (H : Heap) (locs : List Loc) (hK : va_K (dC, dI) vwCl [] s) (hP : va_P (dC, dI) vwCl [] H) (hD : va_D A []) (hS : va_S A s.heap H locs) (ls : Array Slot) (hl : lv_has ls 3 []), W p l e (headSpec (Cond.code yX10_nameSign cX10_nameSign 3 (some .int) :: lw_G) ({ frames := 4, cells := 0, slots := 0, locals := 85 })).room s m ar below meth c H locs 0 0 Q (F0 m 35 ls [.int b16])) ?_ (fun j17 => ?_)
  · skip
    intro b16 ib16 H locs hK hP hD hS ls hl
    rw [hQ]
    obtain ⟨hP9, hD9⟩ := nv_sub2 (wc := []) hP hD [] (by decide) rfl
    have hK9 := hK.sub (tys' := []) [] rfl
    exact W.iret (v := b16) hx hb hr (fun t ht hW => ⟨⟨b16, (), rfl, ⟨iv_w ib16 (by decide) (by decide), trivial⟩, by rw [ht]; exact hP9, va_K.moved hW.alike hK9, hD9⟩, hS.F ht⟩) hS.2.2 dX10_nameSign_35
  refine lv_icmp_ge (tgt := 33) hx hb dX10_nameSign_8 (by decide) (fun c3 => ?_) (fun c3 => ?_)
  · skip
    have j18 : iv x1 4 2147483647 := iv_leR (by decide : iv 4 4 4) (iv_any x1) c3 (by decide)
    refine lv_bipush (v := 32) hx hb dX10_nameSign_33 (by decide) ?_
    exact j17 32 (iv_w (by decide : iv 32 32 32) (by decide) (by decide)) _ _ hK hP hD hS ls (lv_sub hl [] rfl)
  · skip
    have j19 : iv x1 (-2147483648) 3 := iv_nleR (by decide : iv 4 4 4) (iv_any x1) c3 (by decide)
    refine lv_iload_n hx hb dX10_nameSign_11 rfl (lv_at hl 0 rfl) ?_
    refine lv_if_lt (tgt := 33) hx hb dX10_nameSign_12 (by decide) (fun c20 => ?_) (fun c20 => ?_)
    · skip
      have j21 : iv v2 (-2147483648) (-1) := iv_ltL (iv_any v2) (by decide : iv 0 0 0) c20 (by decide)
      refine lv_bipush (v := 32) hx hb dX10_nameSign_33 (by decide) ?_
      exact j17 32 (iv_w (by decide : iv 32 32 32) (by decide) (by decide)) _ _ hK hP hD hS ls (lv_sub hl [] rfl)
    · skip
      have j22 : iv v2 0 2147483647 := iv_nltL (iv_any v2) (by decide : iv 0 0 0) c20 (by decide)
      refine lv_iload_n hx hb dX10_nameSign_15 rfl (lv_at hl 0 rfl) ?_
      refine va_ldcS (q := adK 0) hx hb hown (evR0 hE) dX10_nameSign_16 ?_
      obtain ⟨hPc, hDc, hFc⟩ := nv_sub3 (wc := []) hP hD hS hA [] (by decide) rfl
      have hKc := hK.sub (tys' := []) [] rfl
      refine va_calli (va_runV (As := []) (rest := [.int v2]) ⟨hx, hb, hml, hown, hG⟩ (cJ0_length_8abf5_1 l dC dI adK adV s.heap.size) (cwV 0 hG (gV wd_235 wd_236 wd_237 wd_12 wd_238) rfl rfl rfl (by decide +kernel) ⟨Nat.le_of_ble_eq_true rfl, Nat.le_of_ble_eq_true rfl⟩) ⟨fun a U g mk q => by obtain ⟨q0, q1, qP, qK, qD, qE⟩ := q; exact ⟨q0, q1, qP, va_K.moved (u := U) (U := U.calling g mk a) (Vm.Alike.refl U.vm) qK, qD, qE.same rfl⟩, vk_recv hE.1 (i := 0) (by decide) hS, fun U hU hW => ⟨rfl, by rw [hU], by rw [hU]; exact hPc, va_K.moved hW.alike hKc, hDc.weaken (fun _ _ _ _ => trivial), by rw [hU]; exact ((hE.kept hS.2.1).narrow hFc).warm hW⟩⟩ rfl rfl hl.1 rfl (lv_room (Nat.le_of_ble_eq_true rfl)) dX10_nameSign_18 ⟨by decide, by decide⟩) hS (fun q _ h => hFc q h) hFc (fun r23 u24 t H1 locs ht hvm hw hB hz1 hk1 hS => ?_)
      have hw : r23 = 140 ∧ True := hw
      obtain ⟨er23, -⟩ := hw
      obtain ⟨hP1, hK1, hD1⟩ := hB
      rw [ht] at hP1
      have hK1 := va_K.moved hvm.symm hK1
      obtain ⟨hP, hD⟩ := nv_join (wf := []) hP hD [] [] rfl rfl (by decide) (by decide) hk1 hFc hP1 hD1 rfl
      have hK := (hK.sub (tys' := []) [] rfl).app hK1
      generalize H1 = H at hP hS ⊢
      have hK : va_K (dC, dI) vwCl [] s := hK
      subst er23
      refine lv_icmp_ge (tgt := 33) hx hb dX10_nameSign_21 (by decide) (fun c25 => ?_) (fun c25 => ?_)
      · skip
        have j26 : iv v2 140 2147483647 := iv_leR (by decide : iv 140 140 140) j22 c25 (by decide)
        refine lv_bipush (v := 32) hx hb dX10_nameSign_33 (by decide) ?_
        exact j17 32 (iv_w (by decide : iv 32 32 32) (by decide) (by decide)) _ _ hK hP hD hS ls (lv_sub hl [] rfl)
      · skip
        have j27 : iv v2 0 139 := iv_nleR (by decide : iv 140 140 140) j22 c25 (by decide)
        refine va_ldcS (q := adK 0) hx hb hown (evR0 hE) dX10_nameSign_24 ?_
        refine lv_iload_n hx hb dX10_nameSign_26 rfl (lv_at hl 0 rfl) ?_
        obtain ⟨hPc, hDc, hFc⟩ := nv_sub3 (wc := []) hP hD hS hA [] (by decide) rfl
        have hKc := hK.sub (tys' := []) [] rfl
        refine va_calli (va_runV (As := [.int v2]) (rest := []) ⟨hx, hb, hml, hown, hG⟩ (cJ0_charAt_5068e_1 l dC dI adK adV H.size v2 j27) (cwV 1 hG (gV wd_245 wd_246 wd_247 wd_12 wd_248) rfl rfl rfl (by decide +kernel) ⟨Nat.le_of_ble_eq_true rfl, Nat.le_of_ble_eq_true rfl⟩) ⟨fun a U g mk q => by obtain ⟨q0, q1, qP, qK, qD, qE⟩ := q; exact ⟨q0, q1, qP, va_K.moved (u := U) (U := U.calling g mk a) (Vm.Alike.refl U.vm) qK, qD, qE.same rfl⟩, vk_recv hE.1 (i := 0) (by decide) hS, fun U hU hW => ⟨rfl, by rw [hU], by rw [hU]; exact hPc, va_K.moved hW.alike hKc, hDc.weaken (fun _ _ _ _ => trivial), by rw [hU]; exact ((hE.kept hS.2.1).narrow hFc).warm hW⟩⟩ rfl rfl hl.1 rfl (lv_room (Nat.le_of_ble_eq_true rfl)) dX10_nameSign_27 ⟨by decide, by decide⟩) hS (fun q _ h => hFc q h) hFc (fun r28 u29 t H1 locs ht hvm hw hB hz1 hk1 hS => ?_)
        have hw : iv r28 0 65535 ∧ True := hw
        obtain ⟨ir28, -⟩ := hw
        obtain ⟨hP1, hK1, hD1⟩ := hB
        rw [ht] at hP1
        have hK1 := va_K.moved hvm.symm hK1
        obtain ⟨hP, hD⟩ := nv_join (wf := []) hP hD [] [] rfl rfl (by decide) (by decide) hk1 hFc hP1 hD1 rfl
        have hK := (hK.sub (tys' := []) [] rfl).app hK1
        generalize H1 = H at hP hS ⊢
        have hK : va_K (dC, dI) vwCl [] s := hK
        refine lv_goto (tgt := 35) hx hb dX10_nameSign_30 (by decide) ?_
        exact j17 r28 ir28 _ _ hK hP hD hS ls (lv_sub hl [] rfl)
set_option maxHeartbeats 100000000 in
set_option maxRecDepth 100000 in
theorem cX10_nameKey_1 (l : Launch) (dC : Nat → ClassId) (dI : Nat → Nat → Nat) (adK adV : Nat → Nat) (sz : Nat) (x0 : Int32) : Met l yX10_nameKey (Cond.code yX10_nameKey cX10_nameKey 4 (some .long) :: lw_G) ({ frames := 5, cells := 0, slots := 0, locals := 107 }) (va_Pc [.int x0] (fun U => U.heap.size = sz ∧ va_P (dC, dI) vwCl [] U.heap ∧ va_K (dC, dI) vwCl [] U ∧ va_D (fun _ => True) [] ∧ ev adK adV (va_A [] sz) U U.heap)) (va_Ql (fun (r : Int64) (u : Unit) => True) (fun (u : Unit) (t : State) => va_P (dC, dI) vwCl [] t.heap ∧ va_K (dC, dI) vwCl [] t ∧ va_D (va_A [] sz) []) (va_A [] sz)) 0 0 (va_A [] sz) := by
  refine Met.ofW (cc := cX10_nameKey) (maxL := 4) (ret := (some .long)) (by decide) rfl ?_
  intro p e s m args below meth c s₁ B hml hv
  obtain ⟨rfl, hsz, hP, hK, hD0, hE⟩ := hv
  have hx := B.exec
  have hb := B.bytes
  have hr := B.returns
  have hts0 := atoms_spec (ws := Cond.code yX10_nameKey cX10_nameKey 4 (some .long) :: lw_G) B.pre
  have hG : ∀ w ∈ lw_G, w.before _ s = true := fun w h => hts0 w (List.mem_cons_of_mem _ h)
  have hown : s.vm.findClass RX10 = some m.cls := findClass_of_methodNamed B.named
  have hlocks := B.notSynchronized
  subst hsz
  have hD := hD0.self (sz := s.heap.size)
  generalize hAe : va_A [] s.heap.size = A at hD hE ⊢
  have hA : ∀ q : Nat, s.heap.size ≤ q → A q := fun q h => by rw [← hAe]; exact Or.inr h
  have hS : va_S A s.heap s.heap [] := va_S.rf
  have hP : va_P (dC, dI) vwCl [] s.heap := hP
  have hl := lv_entry ([.int x0]) (n := 4) (Nat.le_of_ble_eq_true rfl)
  rw [lg_entry_eq]
  generalize (lg_sl ([.int x0]) ++ List.replicate (4 - (lg_sl ([.int x0])).length) Slot.unset).toArray = ls at hl ⊢
  have hl : lv_has ls 4 [(0, .int x0)] := hl
  generalize ([.int x0] : List Value).toArray = ar at hG ⊢
  refine wq (fun Q hQ => ?_)
  refine lv_lconst (v := 0) hx hb dX10_nameKey_0 (by decide) ?_
  refine lv_lstore_n (lv' := [(1, .long 0), (0, .int x0)]) hx hb dX10_nameKey_1 rfl hl (by decide) rfl (fun ls hl => ?_)
  refine lv_iconst (v := 0) hx hb dX10_nameKey_2 (by decide) ?_
  refine lv_istore_n (lv' := [(3, .int 0), (1, .long 0), (0, .int x0)]) hx hb dX10_nameKey_3 rfl hl (by decide) rfl (fun ls hl => ?_)
  refine lv_iload_n hx hb dX10_nameKey_4 rfl (lv_at hl 0 rfl) ?_
  refine lv_iconst (v := 4) hx hb dX10_nameKey_5 (by decide) ?_
  refine lv_icmp_ge (tgt := 37) hx hb dX10_nameKey_6 (by decide) (fun c => absurd c (by decide)) (fun _ => ?_)
  refine lv_iload_n hx hb dX10_nameKey_9 rfl (lv_at hl 2 rfl) ?_
  refine lv_iload_n hx hb dX10_nameKey_10 rfl (lv_at hl 0 rfl) ?_
  obtain ⟨hPc, hDc, hFc⟩ := nv_sub3 (wc := []) hP hD hS hA [] (by decide) rfl
  have hKc := hK.sub (tys' := []) [] rfl
  refine va_calli (va_runS (As := [.int x0, .int 0]) (rest := []) ⟨hx, hb, hml, hown, hG⟩ (cX10_nameSign_1 l dC dI adK adV s.heap.size x0 0) (va_cwS 2 hG (gS wd_231 wd_232 wd_11 wd_233) rfl rfl rfl (by decide +kernel) ⟨Nat.le_of_ble_eq_true rfl, Nat.le_of_ble_eq_true rfl⟩) ⟨fun a U g mk q => by obtain ⟨q0, q1, qP, qK, qD, qE⟩ := q; exact ⟨q0, q1, qP, va_K.moved (u := U) (U := U.calling g mk a) (Vm.Alike.refl U.vm) qK, qD, qE.same rfl⟩, fun U hU hW => ⟨rfl, by rw [hU], by rw [hU]; exact hPc, va_K.moved hW.alike hKc, hDc.weaken (fun _ _ _ _ => trivial), by rw [hU]; exact ((hE.kept hS.2.1).narrow hFc).warm hW⟩⟩ rfl rfl hl.1 rfl (lv_room (Nat.le_of_ble_eq_true rfl)) dX10_nameKey_11 ⟨by decide, by decide⟩) hS (fun q _ h => hFc q h) hFc (fun r1 u2 t H1 locs ht hvm hw hB hz1 hk1 hS => ?_)
  have hw : iv r1 0 65535 ∧ True := hw
  obtain ⟨ir1, -⟩ := hw
  obtain ⟨hP1, hK1, hD1⟩ := hB
  rw [ht] at hP1
  have hK1 := va_K.moved hvm.symm hK1
  obtain ⟨hP, hD⟩ := nv_join (wf := []) hP hD [] [] rfl rfl (by decide) (by decide) hk1 hFc hP1 hD1 rfl
  have hK := (hK.sub (tys' := []) [] rfl).app hK1
  generalize H1 = H at hP hS ⊢
  have hK : va_K (dC, dI) vwCl [] s := hK
  refine lv_bipush (v := 32) hx hb dX10_nameKey_14 (by decide) ?_
  refine jcut (a := ∀ (b32 : Int64) (H : Heap) (locs : List Loc) (hK : va_K (dC, dI) vwCl [] s) (hP : va_P (dC, dI) vwCl [] H) (hD : va_D A []) (hS : va_S A s.heap H locs) (ls : Array Slot) (hl : lv_has ls 4 [(1, .long b32)]), W p l e (headSpec (Cond.code yX10_nameKey cX10_nameKey 4 (some .long) :: lw_G) ({ frames := 5, cells := 0, slots := 0, locals := 107 })).room s m ar below meth c H locs 0 0 Q (F0 m 37 ls [])) ?_ (fun j33 => ?_)
  · skip
    intro b32 H locs hK hP hD hS ls hl
    refine lv_lload_n hx hb dX10_nameKey_37 rfl (lv_at hl 0 rfl) ?_
    rw [hQ]
    obtain ⟨hP9, hD9⟩ := nv_sub2 (wc := []) hP hD [] (by decide) rfl
    have hK9 := hK.sub (tys' := []) [] rfl
    exact W.lret (v := b32) hx hb hr (fun t ht hW => ⟨⟨b32, (), rfl, trivial, by rw [ht]; exact hP9, va_K.moved hW.alike hK9, hD9⟩, hS.F ht⟩) hS.2.2 dX10_nameKey_38
  refine lv_icmp_eq (tgt := 37) hx hb dX10_nameKey_16 (by decide) (fun c3 => ?_) (fun c3 => ?_)
  · skip
    subst c3
    exact j33 0 _ _ hK hP hD hS ls (lv_sub hl [1] rfl)
  · skip
    refine lv_lload_n hx hb dX10_nameKey_19 rfl (lv_at hl 1 rfl) ?_
    refine lv_bipush (v := 8) hx hb dX10_nameKey_20 (by decide) ?_
    refine lv_lshl (v := _) hx hb dX10_nameKey_22 rfl ?_
    refine lv_valL (y := 0) (by decide +kernel) ?_
    refine lv_iload_n hx hb dX10_nameKey_23 rfl (lv_at hl 2 rfl) ?_
    refine lv_iload_n hx hb dX10_nameKey_24 rfl (lv_at hl 0 rfl) ?_
    obtain ⟨hPc, hDc, hFc⟩ := nv_sub3 (wc := []) hP hD hS hA [] (by decide) rfl
    have hKc := hK.sub (tys' := []) [] rfl
    refine va_calli (va_runS (As := [.int x0, .int 0]) (rest := [.long 0]) ⟨hx, hb, hml, hown, hG⟩ (cX10_nameSign_1 l dC dI adK adV H.size x0 0) (va_cwS 2 hG (gS wd_231 wd_232 wd_11 wd_233) rfl rfl rfl (by decide +kernel) ⟨Nat.le_of_ble_eq_true rfl, Nat.le_of_ble_eq_true rfl⟩) ⟨fun a U g mk q => by obtain ⟨q0, q1, qP, qK, qD, qE⟩ := q; exact ⟨q0, q1, qP, va_K.moved (u := U) (U := U.calling g mk a) (Vm.Alike.refl U.vm) qK, qD, qE.same rfl⟩, fun U hU hW => ⟨rfl, by rw [hU], by rw [hU]; exact hPc, va_K.moved hW.alike hKc, hDc.weaken (fun _ _ _ _ => trivial), by rw [hU]; exact ((hE.kept hS.2.1).narrow hFc).warm hW⟩⟩ rfl rfl hl.1 rfl (lv_room (Nat.le_of_ble_eq_true rfl)) dX10_nameKey_25 ⟨by decide, by decide⟩) hS (fun q _ h => hFc q h) hFc (fun r34 u35 t H1 locs ht hvm hw hB hz1 hk1 hS => ?_)
    have hw : iv r34 0 65535 ∧ True := hw
    obtain ⟨ir34, -⟩ := hw
    obtain ⟨hP1, hK1, hD1⟩ := hB
    rw [ht] at hP1
    have hK1 := va_K.moved hvm.symm hK1
    obtain ⟨hP, hD⟩ := nv_join (wf := []) hP hD [] [] rfl rfl (by decide) (by decide) hk1 hFc hP1 hD1 rfl
    have hK := (hK.sub (tys' := []) [] rfl).app hK1
    generalize H1 = H at hP hS ⊢
    have hK : va_K (dC, dI) vwCl [] s := hK
    refine lv_i2l (v := _) hx hb dX10_nameKey_28 rfl ?_
    refine lv_topl (fun w36 ew36 => ?_)
    refine lv_lor hx hb dX10_nameKey_29 ?_
    refine lv_topl (fun w37 ew37 => ?_)
    refine lv_lstore_n (lv' := [(1, .long w37), (3, .int 0), (0, .int x0)]) hx hb dX10_nameKey_30 rfl hl (by decide) rfl (fun ls hl => ?_)
    refine lv_iinc (v := 1) (lv' := [(3, .int 1), (1, .long w37), (0, .int x0)]) hx hb dX10_nameKey_31 hl (k := 1) rfl (by decide) (by decide) rfl (fun ls hl => ?_)
    refine lv_goto (tgt := 4) hx hb dX10_nameKey_34 (by decide) ?_
    refine lv_iload_n hx hb dX10_nameKey_4 rfl (lv_at hl 0 rfl) ?_
    refine lv_iconst (v := 4) hx hb dX10_nameKey_5 (by decide) ?_
    refine lv_icmp_ge (tgt := 37) hx hb dX10_nameKey_6 (by decide) (fun c => absurd c (by decide)) (fun _ => ?_)
    refine lv_iload_n hx hb dX10_nameKey_9 rfl (lv_at hl 2 rfl) ?_
    refine lv_iload_n hx hb dX10_nameKey_10 rfl (lv_at hl 0 rfl) ?_
    obtain ⟨hPc, hDc, hFc⟩ := nv_sub3 (wc := []) hP hD hS hA [] (by decide) rfl
    have hKc := hK.sub (tys' := []) [] rfl
    refine va_calli (va_runS (As := [.int x0, .int 1]) (rest := []) ⟨hx, hb, hml, hown, hG⟩ (cX10_nameSign_1 l dC dI adK adV H.size x0 1) (va_cwS 2 hG (gS wd_231 wd_232 wd_11 wd_233) rfl rfl rfl (by decide +kernel) ⟨Nat.le_of_ble_eq_true rfl, Nat.le_of_ble_eq_true rfl⟩) ⟨fun a U g mk q => by obtain ⟨q0, q1, qP, qK, qD, qE⟩ := q; exact ⟨q0, q1, qP, va_K.moved (u := U) (U := U.calling g mk a) (Vm.Alike.refl U.vm) qK, qD, qE.same rfl⟩, fun U hU hW => ⟨rfl, by rw [hU], by rw [hU]; exact hPc, va_K.moved hW.alike hKc, hDc.weaken (fun _ _ _ _ => trivial), by rw [hU]; exact ((hE.kept hS.2.1).narrow hFc).warm hW⟩⟩ rfl rfl hl.1 rfl (lv_room (Nat.le_of_ble_eq_true rfl)) dX10_nameKey_11 ⟨by decide, by decide⟩) hS (fun q _ h => hFc q h) hFc (fun r38 u39 t H1 locs ht hvm hw hB hz1 hk1 hS => ?_)
    have hw : iv r38 0 65535 ∧ True := hw
    obtain ⟨ir38, -⟩ := hw
    obtain ⟨hP1, hK1, hD1⟩ := hB
    rw [ht] at hP1
    have hK1 := va_K.moved hvm.symm hK1
    obtain ⟨hP, hD⟩ := nv_join (wf := []) hP hD [] [] rfl rfl (by decide) (by decide) hk1 hFc hP1 hD1 rfl
    have hK := (hK.sub (tys' := []) [] rfl).app hK1
    generalize H1 = H at hP hS ⊢
    have hK : va_K (dC, dI) vwCl [] s := hK
    refine lv_bipush (v := 32) hx hb dX10_nameKey_14 (by decide) ?_
    refine lv_icmp_eq (tgt := 37) hx hb dX10_nameKey_16 (by decide) (fun c40 => ?_) (fun c40 => ?_)
    · skip
      subst c40
      exact j33 w37 _ _ hK hP hD hS ls (lv_sub hl [1] rfl)
    · skip
      refine lv_lload_n hx hb dX10_nameKey_19 rfl (lv_at hl 1 rfl) ?_
      refine lv_bipush (v := 8) hx hb dX10_nameKey_20 (by decide) ?_
      refine lv_lshl (v := _) hx hb dX10_nameKey_22 rfl ?_
      refine lv_topl (fun w41 ew41 => ?_)
      refine lv_iload_n hx hb dX10_nameKey_23 rfl (lv_at hl 2 rfl) ?_
      refine lv_iload_n hx hb dX10_nameKey_24 rfl (lv_at hl 0 rfl) ?_
      obtain ⟨hPc, hDc, hFc⟩ := nv_sub3 (wc := []) hP hD hS hA [] (by decide) rfl
      have hKc := hK.sub (tys' := []) [] rfl
      refine va_calli (va_runS (As := [.int x0, .int 1]) (rest := [.long w41]) ⟨hx, hb, hml, hown, hG⟩ (cX10_nameSign_1 l dC dI adK adV H.size x0 1) (va_cwS 2 hG (gS wd_231 wd_232 wd_11 wd_233) rfl rfl rfl (by decide +kernel) ⟨Nat.le_of_ble_eq_true rfl, Nat.le_of_ble_eq_true rfl⟩) ⟨fun a U g mk q => by obtain ⟨q0, q1, qP, qK, qD, qE⟩ := q; exact ⟨q0, q1, qP, va_K.moved (u := U) (U := U.calling g mk a) (Vm.Alike.refl U.vm) qK, qD, qE.same rfl⟩, fun U hU hW => ⟨rfl, by rw [hU], by rw [hU]; exact hPc, va_K.moved hW.alike hKc, hDc.weaken (fun _ _ _ _ => trivial), by rw [hU]; exact ((hE.kept hS.2.1).narrow hFc).warm hW⟩⟩ rfl rfl hl.1 rfl (lv_room (Nat.le_of_ble_eq_true rfl)) dX10_nameKey_25 ⟨by decide, by decide⟩) hS (fun q _ h => hFc q h) hFc (fun r42 u43 t H1 locs ht hvm hw hB hz1 hk1 hS => ?_)
      have hw : iv r42 0 65535 ∧ True := hw
      obtain ⟨ir42, -⟩ := hw
      obtain ⟨hP1, hK1, hD1⟩ := hB
      rw [ht] at hP1
      have hK1 := va_K.moved hvm.symm hK1
      obtain ⟨hP, hD⟩ := nv_join (wf := []) hP hD [] [] rfl rfl (by decide) (by decide) hk1 hFc hP1 hD1 rfl
      have hK := (hK.sub (tys' := []) [] rfl).app hK1
      generalize H1 = H at hP hS ⊢
      have hK : va_K (dC, dI) vwCl [] s := hK
      refine lv_i2l (v := _) hx hb dX10_nameKey_28 rfl ?_
      refine lv_topl (fun w44 ew44 => ?_)
      refine lv_lor hx hb dX10_nameKey_29 ?_
      refine lv_topl (fun w45 ew45 => ?_)
      refine lv_lstore_n (lv' := [(1, .long w45), (3, .int 1), (0, .int x0)]) hx hb dX10_nameKey_30 rfl hl (by decide) rfl (fun ls hl => ?_)
      refine lv_iinc (v := 2) (lv' := [(3, .int 2), (1, .long w45), (0, .int x0)]) hx hb dX10_nameKey_31 hl (k := 1) rfl (by decide) (by decide) rfl (fun ls hl => ?_)
      refine lv_goto (tgt := 4) hx hb dX10_nameKey_34 (by decide) ?_
      refine lv_iload_n hx hb dX10_nameKey_4 rfl (lv_at hl 0 rfl) ?_
      refine lv_iconst (v := 4) hx hb dX10_nameKey_5 (by decide) ?_
      refine lv_icmp_ge (tgt := 37) hx hb dX10_nameKey_6 (by decide) (fun c => absurd c (by decide)) (fun _ => ?_)
      refine lv_iload_n hx hb dX10_nameKey_9 rfl (lv_at hl 2 rfl) ?_
      refine lv_iload_n hx hb dX10_nameKey_10 rfl (lv_at hl 0 rfl) ?_
      obtain ⟨hPc, hDc, hFc⟩ := nv_sub3 (wc := []) hP hD hS hA [] (by decide) rfl
      have hKc := hK.sub (tys' := []) [] rfl
      refine va_calli (va_runS (As := [.int x0, .int 2]) (rest := []) ⟨hx, hb, hml, hown, hG⟩ (cX10_nameSign_1 l dC dI adK adV H.size x0 2) (va_cwS 2 hG (gS wd_231 wd_232 wd_11 wd_233) rfl rfl rfl (by decide +kernel) ⟨Nat.le_of_ble_eq_true rfl, Nat.le_of_ble_eq_true rfl⟩) ⟨fun a U g mk q => by obtain ⟨q0, q1, qP, qK, qD, qE⟩ := q; exact ⟨q0, q1, qP, va_K.moved (u := U) (U := U.calling g mk a) (Vm.Alike.refl U.vm) qK, qD, qE.same rfl⟩, fun U hU hW => ⟨rfl, by rw [hU], by rw [hU]; exact hPc, va_K.moved hW.alike hKc, hDc.weaken (fun _ _ _ _ => trivial), by rw [hU]; exact ((hE.kept hS.2.1).narrow hFc).warm hW⟩⟩ rfl rfl hl.1 rfl (lv_room (Nat.le_of_ble_eq_true rfl)) dX10_nameKey_11 ⟨by decide, by decide⟩) hS (fun q _ h => hFc q h) hFc (fun r46 u47 t H1 locs ht hvm hw hB hz1 hk1 hS => ?_)
      have hw : iv r46 0 65535 ∧ True := hw
      obtain ⟨ir46, -⟩ := hw
      obtain ⟨hP1, hK1, hD1⟩ := hB
      rw [ht] at hP1
      have hK1 := va_K.moved hvm.symm hK1
      obtain ⟨hP, hD⟩ := nv_join (wf := []) hP hD [] [] rfl rfl (by decide) (by decide) hk1 hFc hP1 hD1 rfl
      have hK := (hK.sub (tys' := []) [] rfl).app hK1
      generalize H1 = H at hP hS ⊢
      have hK : va_K (dC, dI) vwCl [] s := hK
      refine lv_bipush (v := 32) hx hb dX10_nameKey_14 (by decide) ?_
      refine lv_icmp_eq (tgt := 37) hx hb dX10_nameKey_16 (by decide) (fun c48 => ?_) (fun c48 => ?_)
      · skip
        subst c48
        exact j33 w45 _ _ hK hP hD hS ls (lv_sub hl [1] rfl)
      · skip
        refine lv_lload_n hx hb dX10_nameKey_19 rfl (lv_at hl 1 rfl) ?_
        refine lv_bipush (v := 8) hx hb dX10_nameKey_20 (by decide) ?_
        refine lv_lshl (v := _) hx hb dX10_nameKey_22 rfl ?_
        refine lv_topl (fun w49 ew49 => ?_)
        refine lv_iload_n hx hb dX10_nameKey_23 rfl (lv_at hl 2 rfl) ?_
        refine lv_iload_n hx hb dX10_nameKey_24 rfl (lv_at hl 0 rfl) ?_
        obtain ⟨hPc, hDc, hFc⟩ := nv_sub3 (wc := []) hP hD hS hA [] (by decide) rfl
        have hKc := hK.sub (tys' := []) [] rfl
        refine va_calli (va_runS (As := [.int x0, .int 2]) (rest := [.long w49]) ⟨hx, hb, hml, hown, hG⟩ (cX10_nameSign_1 l dC dI adK adV H.size x0 2) (va_cwS 2 hG (gS wd_231 wd_232 wd_11 wd_233) rfl rfl rfl (by decide +kernel) ⟨Nat.le_of_ble_eq_true rfl, Nat.le_of_ble_eq_true rfl⟩) ⟨fun a U g mk q => by obtain ⟨q0, q1, qP, qK, qD, qE⟩ := q; exact ⟨q0, q1, qP, va_K.moved (u := U) (U := U.calling g mk a) (Vm.Alike.refl U.vm) qK, qD, qE.same rfl⟩, fun U hU hW => ⟨rfl, by rw [hU], by rw [hU]; exact hPc, va_K.moved hW.alike hKc, hDc.weaken (fun _ _ _ _ => trivial), by rw [hU]; exact ((hE.kept hS.2.1).narrow hFc).warm hW⟩⟩ rfl rfl hl.1 rfl (lv_room (Nat.le_of_ble_eq_true rfl)) dX10_nameKey_25 ⟨by decide, by decide⟩) hS (fun q _ h => hFc q h) hFc (fun r50 u51 t H1 locs ht hvm hw hB hz1 hk1 hS => ?_)
        have hw : iv r50 0 65535 ∧ True := hw
        obtain ⟨ir50, -⟩ := hw
        obtain ⟨hP1, hK1, hD1⟩ := hB
        rw [ht] at hP1
        have hK1 := va_K.moved hvm.symm hK1
        obtain ⟨hP, hD⟩ := nv_join (wf := []) hP hD [] [] rfl rfl (by decide) (by decide) hk1 hFc hP1 hD1 rfl
        have hK := (hK.sub (tys' := []) [] rfl).app hK1
        generalize H1 = H at hP hS ⊢
        have hK : va_K (dC, dI) vwCl [] s := hK
        refine lv_i2l (v := _) hx hb dX10_nameKey_28 rfl ?_
        refine lv_topl (fun w52 ew52 => ?_)
        refine lv_lor hx hb dX10_nameKey_29 ?_
        refine lv_topl (fun w53 ew53 => ?_)
        refine lv_lstore_n (lv' := [(1, .long w53), (3, .int 2), (0, .int x0)]) hx hb dX10_nameKey_30 rfl hl (by decide) rfl (fun ls hl => ?_)
        refine lv_iinc (v := 3) (lv' := [(3, .int 3), (1, .long w53), (0, .int x0)]) hx hb dX10_nameKey_31 hl (k := 1) rfl (by decide) (by decide) rfl (fun ls hl => ?_)
        refine lv_goto (tgt := 4) hx hb dX10_nameKey_34 (by decide) ?_
        refine lv_iload_n hx hb dX10_nameKey_4 rfl (lv_at hl 0 rfl) ?_
        refine lv_iconst (v := 4) hx hb dX10_nameKey_5 (by decide) ?_
        refine lv_icmp_ge (tgt := 37) hx hb dX10_nameKey_6 (by decide) (fun c => absurd c (by decide)) (fun _ => ?_)
        refine lv_iload_n hx hb dX10_nameKey_9 rfl (lv_at hl 2 rfl) ?_
        refine lv_iload_n hx hb dX10_nameKey_10 rfl (lv_at hl 0 rfl) ?_
        obtain ⟨hPc, hDc, hFc⟩ := nv_sub3 (wc := []) hP hD hS hA [] (by decide) rfl
        have hKc := hK.sub (tys' := []) [] rfl
        refine va_calli (va_runS (As := [.int x0, .int 3]) (rest := []) ⟨hx, hb, hml, hown, hG⟩ (cX10_nameSign_1 l dC dI adK adV H.size x0 3) (va_cwS 2 hG (gS wd_231 wd_232 wd_11 wd_233) rfl rfl rfl (by decide +kernel) ⟨Nat.le_of_ble_eq_true rfl, Nat.le_of_ble_eq_true rfl⟩) ⟨fun a U g mk q => by obtain ⟨q0, q1, qP, qK, qD, qE⟩ := q; exact ⟨q0, q1, qP, va_K.moved (u := U) (U := U.calling g mk a) (Vm.Alike.refl U.vm) qK, qD, qE.same rfl⟩, fun U hU hW => ⟨rfl, by rw [hU], by rw [hU]; exact hPc, va_K.moved hW.alike hKc, hDc.weaken (fun _ _ _ _ => trivial), by rw [hU]; exact ((hE.kept hS.2.1).narrow hFc).warm hW⟩⟩ rfl rfl hl.1 rfl (lv_room (Nat.le_of_ble_eq_true rfl)) dX10_nameKey_11 ⟨by decide, by decide⟩) hS (fun q _ h => hFc q h) hFc (fun r54 u55 t H1 locs ht hvm hw hB hz1 hk1 hS => ?_)
        have hw : iv r54 0 65535 ∧ True := hw
        obtain ⟨ir54, -⟩ := hw
        obtain ⟨hP1, hK1, hD1⟩ := hB
        rw [ht] at hP1
        have hK1 := va_K.moved hvm.symm hK1
        obtain ⟨hP, hD⟩ := nv_join (wf := []) hP hD [] [] rfl rfl (by decide) (by decide) hk1 hFc hP1 hD1 rfl
        have hK := (hK.sub (tys' := []) [] rfl).app hK1
        generalize H1 = H at hP hS ⊢
        have hK : va_K (dC, dI) vwCl [] s := hK
        refine lv_bipush (v := 32) hx hb dX10_nameKey_14 (by decide) ?_
        refine lv_icmp_eq (tgt := 37) hx hb dX10_nameKey_16 (by decide) (fun c56 => ?_) (fun c56 => ?_)
        · skip
          subst c56
          exact j33 w53 _ _ hK hP hD hS ls (lv_sub hl [1] rfl)
        · skip
          refine lv_lload_n hx hb dX10_nameKey_19 rfl (lv_at hl 1 rfl) ?_
          refine lv_bipush (v := 8) hx hb dX10_nameKey_20 (by decide) ?_
          refine lv_lshl (v := _) hx hb dX10_nameKey_22 rfl ?_
          refine lv_topl (fun w57 ew57 => ?_)
          refine lv_iload_n hx hb dX10_nameKey_23 rfl (lv_at hl 2 rfl) ?_
          refine lv_iload_n hx hb dX10_nameKey_24 rfl (lv_at hl 0 rfl) ?_
          obtain ⟨hPc, hDc, hFc⟩ := nv_sub3 (wc := []) hP hD hS hA [] (by decide) rfl
          have hKc := hK.sub (tys' := []) [] rfl
          refine va_calli (va_runS (As := [.int x0, .int 3]) (rest := [.long w57]) ⟨hx, hb, hml, hown, hG⟩ (cX10_nameSign_1 l dC dI adK adV H.size x0 3) (va_cwS 2 hG (gS wd_231 wd_232 wd_11 wd_233) rfl rfl rfl (by decide +kernel) ⟨Nat.le_of_ble_eq_true rfl, Nat.le_of_ble_eq_true rfl⟩) ⟨fun a U g mk q => by obtain ⟨q0, q1, qP, qK, qD, qE⟩ := q; exact ⟨q0, q1, qP, va_K.moved (u := U) (U := U.calling g mk a) (Vm.Alike.refl U.vm) qK, qD, qE.same rfl⟩, fun U hU hW => ⟨rfl, by rw [hU], by rw [hU]; exact hPc, va_K.moved hW.alike hKc, hDc.weaken (fun _ _ _ _ => trivial), by rw [hU]; exact ((hE.kept hS.2.1).narrow hFc).warm hW⟩⟩ rfl rfl hl.1 rfl (lv_room (Nat.le_of_ble_eq_true rfl)) dX10_nameKey_25 ⟨by decide, by decide⟩) hS (fun q _ h => hFc q h) hFc (fun r58 u59 t H1 locs ht hvm hw hB hz1 hk1 hS => ?_)
          have hw : iv r58 0 65535 ∧ True := hw
          obtain ⟨ir58, -⟩ := hw
          obtain ⟨hP1, hK1, hD1⟩ := hB
          rw [ht] at hP1
          have hK1 := va_K.moved hvm.symm hK1
          obtain ⟨hP, hD⟩ := nv_join (wf := []) hP hD [] [] rfl rfl (by decide) (by decide) hk1 hFc hP1 hD1 rfl
          have hK := (hK.sub (tys' := []) [] rfl).app hK1
          generalize H1 = H at hP hS ⊢
          have hK : va_K (dC, dI) vwCl [] s := hK
          refine lv_i2l (v := _) hx hb dX10_nameKey_28 rfl ?_
          refine lv_topl (fun w60 ew60 => ?_)
          refine lv_lor hx hb dX10_nameKey_29 ?_
          refine lv_topl (fun w61 ew61 => ?_)
          refine lv_lstore_n (lv' := [(1, .long w61), (3, .int 3), (0, .int x0)]) hx hb dX10_nameKey_30 rfl hl (by decide) rfl (fun ls hl => ?_)
          refine lv_iinc (v := 4) (lv' := [(3, .int 4), (1, .long w61), (0, .int x0)]) hx hb dX10_nameKey_31 hl (k := 1) rfl (by decide) (by decide) rfl (fun ls hl => ?_)
          refine lv_goto (tgt := 4) hx hb dX10_nameKey_34 (by decide) ?_
          refine lv_iload_n hx hb dX10_nameKey_4 rfl (lv_at hl 0 rfl) ?_
          refine lv_iconst (v := 4) hx hb dX10_nameKey_5 (by decide) ?_
          refine lv_icmp_ge (tgt := 37) hx hb dX10_nameKey_6 (by decide) (fun _ => ?_) (fun c => absurd (by decide) c)
          exact j33 w61 _ _ hK hP hD hS ls (lv_sub hl [1] rfl)
set_option maxHeartbeats 100000000 in
set_option maxRecDepth 100000 in
theorem cX10_init_1 (l : Launch) (dC : Nat → ClassId) (dI : Nat → Nat → Nat) (adK adV : Nat → Nat) (h0 h1 : Nat) (sz : Nat) (x0 x1 x2 x3 x4 : Int32) (z0 : Int64) (ix0 : iv x0 0 2600) (ix1 : iv x1 0 2501) (ix2 : iv x2 0 2500) : Met l yX10_init (Cond.code yX10_init cX10_init 3 none :: lw_G) ({ frames := 6, cells := 5, slots := 10039, locals := 130 }) (va_Pc [.ref h0, .ref h1] (fun U => U.heap.size = sz ∧ va_P (dC, dI) vwCl [(h0, .inr (10, [.null, .null, .null, .null, .null, .null, .int x0, .int x1, .int x2, .int x3, .int x4, .long z0]))] U.heap ∧ va_K (dC, dI) vwCl [] U ∧ va_D (fun _ => True) [(h0, .inr (10, [.null, .null, .null, .null, .null, .null, .int x0, .int x1, .int x2, .int x3, .int x4, .long z0]))] ∧ ev adK adV (va_A [(h0, .inr (10, [.null, .null, .null, .null, .null, .null, .int x0, .int x1, .int x2, .int x3, .int x4, .long z0]))] sz) U U.heap)) (va_Qv (fun (u : Nat × Nat × Nat × Nat × Nat × ClassId × ClassId × ClassId × ClassId × ClassId × (Nat → Int64)) => True) (fun (u : Nat × Nat × Nat × Nat × Nat × ClassId × ClassId × ClassId × ClassId × ClassId × (Nat → Int64)) (t : State) => va_P (dC, dI) vwCl [(h0, .inr (10, [.ref u.1, .ref u.2.1, .ref u.2.2.1, .ref u.2.2.2.1, .ref u.2.2.2.2.1, .ref h1, .int x0, .int x1, .int x2, .int x3, .int x4, .long z0])), (u.1, .inl (u.2.2.2.2.2.1, 2501, .inl (fun _ => 0))), (u.2.1, .inl (u.2.2.2.2.2.2.1, 2501, .inl (fun _ => 0))), (u.2.2.1, .inl (u.2.2.2.2.2.2.2.1, 2501, .inl (fun _ => 0))), (u.2.2.2.1, .inl (u.2.2.2.2.2.2.2.2.1, 2501, .inr (.inl (fun _ => 0)))), (u.2.2.2.2.1, .inl (u.2.2.2.2.2.2.2.2.2.1, 35, .inr (.inl u.2.2.2.2.2.2.2.2.2.2)))] t.heap ∧ va_K (dC, dI) vwCl [(u.2.2.2.2.2.1, .int), (u.2.2.2.2.2.2.1, .int), (u.2.2.2.2.2.2.2.1, .int), (u.2.2.2.2.2.2.2.2.1, .long), (u.2.2.2.2.2.2.2.2.2.1, .long)] t ∧ va_D (va_A [(h0, .inr (10, [.null, .null, .null, .null, .null, .null, .int x0, .int x1, .int x2, .int x3, .int x4, .long z0]))] sz) [(h0, .inr (10, [.ref u.1, .ref u.2.1, .ref u.2.2.1, .ref u.2.2.2.1, .ref u.2.2.2.2.1, .ref h1, .int x0, .int x1, .int x2, .int x3, .int x4, .long z0])), (u.1, .inl (u.2.2.2.2.2.1, 2501, .inl (fun _ => 0))), (u.2.1, .inl (u.2.2.2.2.2.2.1, 2501, .inl (fun _ => 0))), (u.2.2.1, .inl (u.2.2.2.2.2.2.2.1, 2501, .inl (fun _ => 0))), (u.2.2.2.1, .inl (u.2.2.2.2.2.2.2.2.1, 2501, .inr (.inl (fun _ => 0)))), (u.2.2.2.2.1, .inl (u.2.2.2.2.2.2.2.2.2.1, 35, .inr (.inl u.2.2.2.2.2.2.2.2.2.2)))]) (va_A [(h0, .inr (10, [.null, .null, .null, .null, .null, .null, .int x0, .int x1, .int x2, .int x3, .int x4, .long z0]))] sz)) 5 10039 (va_A [(h0, .inr (10, [.null, .null, .null, .null, .null, .null, .int x0, .int x1, .int x2, .int x3, .int x4, .long z0]))] sz) := by
  refine Met.ofW (cc := cX10_init) (maxL := 3) (ret := none) (by decide) rfl ?_
  intro p e s m args below meth c s₁ B hml hv
  obtain ⟨rfl, hsz, hP, hK, hD0, hE⟩ := hv
  have hx := B.exec
  have hb := B.bytes
  have hr := B.returns
  have hts0 := atoms_spec (ws := Cond.code yX10_init cX10_init 3 none :: lw_G) B.pre
  have hG : ∀ w ∈ lw_G, w.before _ s = true := fun w h => hts0 w (List.mem_cons_of_mem _ h)
  have hown : s.vm.findClass RX10 = some m.cls := findClass_of_methodNamed B.named
  have hlocks := B.notSynchronized
  have hin : meth.name = "<init>" := (name_of_methodNamed B.named B.method).1
  subst hsz
  have hD := hD0.self (sz := s.heap.size)
  generalize hAe : va_A [(h0, .inr (10, [.null, .null, .null, .null, .null, .null, .int x0, .int x1, .int x2, .int x3, .int x4, .long z0]))] s.heap.size = A at hD hE ⊢
  have hA : ∀ q : Nat, s.heap.size ≤ q → A q := fun q h => by rw [← hAe]; exact Or.inr h
  have hS : va_S A s.heap s.heap [] := va_S.rf
  have hP : va_P (dC, dI) vwCl [(h0, .inr (10, [.null, .null, .null, .null, .null, .null, .int x0, .int x1, .int x2, .int x3, .int x4, .long z0]))] s.heap := hP
  have hl := lv_entry ([.ref h0, .ref h1]) (n := 3) (Nat.le_of_ble_eq_true rfl)
  rw [lg_entry_eq]
  generalize (lg_sl ([.ref h0, .ref h1]) ++ List.replicate (3 - (lg_sl ([.ref h0, .ref h1])).length) Slot.unset).toArray = ls at hl ⊢
  have hl : lv_has ls 3 [(0, .ref h0), (1, .ref h1)] := hl
  generalize ([.ref h0, .ref h1] : List Value).toArray = ar at hG ⊢
  refine wq (fun Q hQ => ?_)
  refine lv_aload_n hx hb dX10_init_0 rfl (lv_at hl 0 rfl) ?_
  refine W.objInit hx hb hown (hG _ wd_227) (hG _ wd_32) (hG _ wd_33) rfl (by rw [hml]; exact hl.1) rfl dX10_init_1 (Nat.le_of_ble_eq_true rfl) (Nat.le_of_ble_eq_true rfl) ?_
  refine W.eq (g2 := F0 m 4 ls []) rfl ?_
  refine lv_aload_n hx hb dX10_init_4 rfl (lv_at hl 0 rfl) ?_
  refine lv_sipush (v := 2501) hx hb dX10_init_5 (by decide) ?_
  refine va_newa (atype := .int) (ty := .int) (a0 := (2501, (.inl (fun _ => 0)))) hx hb (hG _ wd_63) rfl hK hP hD hS hA (fun _ => rfl) (by decide) (by decide) (by decide) (by decide) (by decide) dX10_init_8 (fun q1 ny2 H hK hP hD hS => ?_)
  obtain ⟨hP, hD⟩ := nv_eq (ws' := [(h0, .inr (10, [.null, .null, .null, .null, .null, .null, .int x0, .int x1, .int x2, .int x3, .int x4, .long z0])), (q1, .inl (ny2, 2501, .inl (fun _ => 0)))]) hP hD rfl
  have hK : va_K (dC, dI) vwCl [(ny2, .int)] s := hK
  refine W.widen (k := 1) (n := 2501) (by decide) (by decide) ?_
  refine va_putF (D := (dC, dI)) (ci := 10) (v := .ref q1) (ty := .array .int) (C := RX10) (T := TX10) (N := 12) hx hb hG inGX10 tyX10 tyX10_ok nmX10 hown hK hP hD hS 0 rfl rfl 0 (by decide) (hG _ wd_283) (fun _ h9 => h9) rfl hin rfl (by decide +kernel) rfl rfl (Nat.le_of_ble_eq_true rfl) dX10_init_10 (fun H locs hP hD hS => ?_)
  obtain ⟨hP, hD⟩ := nv_eq (ws' := [(h0, .inr (10, [.ref q1, .null, .null, .null, .null, .null, .int x0, .int x1, .int x2, .int x3, .int x4, .long z0])), (q1, .inl (ny2, 2501, .inl (fun _ => 0)))]) hP hD rfl
  refine lv_aload_n hx hb dX10_init_13 rfl (lv_at hl 0 rfl) ?_
  refine lv_sipush (v := 2501) hx hb dX10_init_14 (by decide) ?_
  refine va_newa (atype := .int) (ty := .int) (a0 := (2501, (.inl (fun _ => 0)))) hx hb (hG _ wd_63) rfl hK hP hD hS hA (fun _ => rfl) (by decide) (by decide) (by decide) (by decide) (by decide) dX10_init_17 (fun q3 ny4 H hK hP hD hS => ?_)
  obtain ⟨hP, hD⟩ := nv_eq (ws' := [(h0, .inr (10, [.ref q1, .null, .null, .null, .null, .null, .int x0, .int x1, .int x2, .int x3, .int x4, .long z0])), (q1, .inl (ny2, 2501, .inl (fun _ => 0))), (q3, .inl (ny4, 2501, .inl (fun _ => 0)))]) hP hD rfl
  have hK : va_K (dC, dI) vwCl [(ny2, .int), (ny4, .int)] s := hK
  refine W.widen (k := 2) (n := 5002) (by decide) (by decide) ?_
  refine va_putF (D := (dC, dI)) (ci := 10) (v := .ref q3) (ty := .array .int) (C := RX10) (T := TX10) (N := 12) hx hb hG inGX10 tyX10 tyX10_ok nmX10 hown hK hP hD hS 0 rfl rfl 1 (by decide) (hG _ wd_284) (fun _ h9 => h9) rfl hin rfl (by decide +kernel) rfl rfl (Nat.le_of_ble_eq_true rfl) dX10_init_19 (fun H locs hP hD hS => ?_)
  obtain ⟨hP, hD⟩ := nv_eq (ws' := [(h0, .inr (10, [.ref q1, .ref q3, .null, .null, .null, .null, .int x0, .int x1, .int x2, .int x3, .int x4, .long z0])), (q1, .inl (ny2, 2501, .inl (fun _ => 0))), (q3, .inl (ny4, 2501, .inl (fun _ => 0)))]) hP hD rfl
  refine lv_aload_n hx hb dX10_init_22 rfl (lv_at hl 0 rfl) ?_
  refine lv_sipush (v := 2501) hx hb dX10_init_23 (by decide) ?_
  refine va_newa (atype := .int) (ty := .int) (a0 := (2501, (.inl (fun _ => 0)))) hx hb (hG _ wd_63) rfl hK hP hD hS hA (fun _ => rfl) (by decide) (by decide) (by decide) (by decide) (by decide) dX10_init_26 (fun q5 ny6 H hK hP hD hS => ?_)
  obtain ⟨hP, hD⟩ := nv_eq (ws' := [(h0, .inr (10, [.ref q1, .ref q3, .null, .null, .null, .null, .int x0, .int x1, .int x2, .int x3, .int x4, .long z0])), (q1, .inl (ny2, 2501, .inl (fun _ => 0))), (q3, .inl (ny4, 2501, .inl (fun _ => 0))), (q5, .inl (ny6, 2501, .inl (fun _ => 0)))]) hP hD rfl
  have hK : va_K (dC, dI) vwCl [(ny2, .int), (ny4, .int), (ny6, .int)] s := hK
  refine W.widen (k := 3) (n := 7503) (by decide) (by decide) ?_
  refine va_putF (D := (dC, dI)) (ci := 10) (v := .ref q5) (ty := .array .int) (C := RX10) (T := TX10) (N := 12) hx hb hG inGX10 tyX10 tyX10_ok nmX10 hown hK hP hD hS 0 rfl rfl 2 (by decide) (hG _ wd_285) (fun _ h9 => h9) rfl hin rfl (by decide +kernel) rfl rfl (Nat.le_of_ble_eq_true rfl) dX10_init_28 (fun H locs hP hD hS => ?_)
  obtain ⟨hP, hD⟩ := nv_eq (ws' := [(h0, .inr (10, [.ref q1, .ref q3, .ref q5, .null, .null, .null, .int x0, .int x1, .int x2, .int x3, .int x4, .long z0])), (q1, .inl (ny2, 2501, .inl (fun _ => 0))), (q3, .inl (ny4, 2501, .inl (fun _ => 0))), (q5, .inl (ny6, 2501, .inl (fun _ => 0)))]) hP hD rfl
  refine lv_aload_n hx hb dX10_init_31 rfl (lv_at hl 0 rfl) ?_
  refine lv_sipush (v := 2501) hx hb dX10_init_32 (by decide) ?_
  refine va_newa (atype := .long) (ty := .long) (a0 := (2501, (.inr (.inl (fun _ => 0))))) hx hb (hG _ wd_221) rfl hK hP hD hS hA (fun _ => rfl) (by decide) (by decide) (by decide) (by decide) (by decide) dX10_init_35 (fun q7 ny8 H hK hP hD hS => ?_)
  obtain ⟨hP, hD⟩ := nv_eq (ws' := [(h0, .inr (10, [.ref q1, .ref q3, .ref q5, .null, .null, .null, .int x0, .int x1, .int x2, .int x3, .int x4, .long z0])), (q1, .inl (ny2, 2501, .inl (fun _ => 0))), (q3, .inl (ny4, 2501, .inl (fun _ => 0))), (q5, .inl (ny6, 2501, .inl (fun _ => 0))), (q7, .inl (ny8, 2501, .inr (.inl (fun _ => 0))))]) hP hD rfl
  have hK : va_K (dC, dI) vwCl [(ny2, .int), (ny4, .int), (ny6, .int), (ny8, .long)] s := hK
  refine W.widen (k := 4) (n := 10004) (by decide) (by decide) ?_
  refine va_putF (D := (dC, dI)) (ci := 10) (v := .ref q7) (ty := .array .long) (C := RX10) (T := TX10) (N := 12) hx hb hG inGX10 tyX10 tyX10_ok nmX10 hown hK hP hD hS 0 rfl rfl 3 (by decide) (hG _ wd_286) (fun _ h9 => h9) rfl hin rfl (by decide +kernel) rfl rfl (Nat.le_of_ble_eq_true rfl) dX10_init_37 (fun H locs hP hD hS => ?_)
  obtain ⟨hP, hD⟩ := nv_eq (ws' := [(h0, .inr (10, [.ref q1, .ref q3, .ref q5, .ref q7, .null, .null, .int x0, .int x1, .int x2, .int x3, .int x4, .long z0])), (q1, .inl (ny2, 2501, .inl (fun _ => 0))), (q3, .inl (ny4, 2501, .inl (fun _ => 0))), (q5, .inl (ny6, 2501, .inl (fun _ => 0))), (q7, .inl (ny8, 2501, .inr (.inl (fun _ => 0))))]) hP hD rfl
  refine lv_aload_n hx hb dX10_init_40 rfl (lv_at hl 0 rfl) ?_
  refine lv_bipush (v := 35) hx hb dX10_init_41 (by decide) ?_
  refine va_newa (atype := .long) (ty := .long) (a0 := (35, (.inr (.inl (fun _ => 0))))) hx hb (hG _ wd_221) rfl hK hP hD hS hA (fun _ => rfl) (by decide) (by decide) (by decide) (by decide) (by decide) dX10_init_43 (fun q9 ny10 H hK hP hD hS => ?_)
  obtain ⟨hP, hD⟩ := nv_eq (ws' := [(h0, .inr (10, [.ref q1, .ref q3, .ref q5, .ref q7, .null, .null, .int x0, .int x1, .int x2, .int x3, .int x4, .long z0])), (q1, .inl (ny2, 2501, .inl (fun _ => 0))), (q3, .inl (ny4, 2501, .inl (fun _ => 0))), (q5, .inl (ny6, 2501, .inl (fun _ => 0))), (q7, .inl (ny8, 2501, .inr (.inl (fun _ => 0)))), (q9, .inl (ny10, 35, .inr (.inl (fun _ => 0))))]) hP hD rfl
  have hK : va_K (dC, dI) vwCl [(ny2, .int), (ny4, .int), (ny6, .int), (ny8, .long), (ny10, .long)] s := hK
  refine W.widen (k := 5) (n := 10039) (by decide) (by decide) ?_
  refine va_putF (D := (dC, dI)) (ci := 10) (v := .ref q9) (ty := .array .long) (C := RX10) (T := TX10) (N := 12) hx hb hG inGX10 tyX10 tyX10_ok nmX10 hown hK hP hD hS 0 rfl rfl 4 (by decide) (hG _ wd_287) (fun _ h9 => h9) rfl hin rfl (by decide +kernel) rfl rfl (Nat.le_of_ble_eq_true rfl) dX10_init_45 (fun H locs hP hD hS => ?_)
  obtain ⟨hP, hD⟩ := nv_eq (ws' := [(h0, .inr (10, [.ref q1, .ref q3, .ref q5, .ref q7, .ref q9, .null, .int x0, .int x1, .int x2, .int x3, .int x4, .long z0])), (q1, .inl (ny2, 2501, .inl (fun _ => 0))), (q3, .inl (ny4, 2501, .inl (fun _ => 0))), (q5, .inl (ny6, 2501, .inl (fun _ => 0))), (q7, .inl (ny8, 2501, .inr (.inl (fun _ => 0)))), (q9, .inl (ny10, 35, .inr (.inl (fun _ => 0))))]) hP hD rfl
  refine lv_aload_n hx hb dX10_init_48 rfl (lv_at hl 0 rfl) ?_
  refine lv_aload_n hx hb dX10_init_49 rfl (lv_at hl 1 rfl) ?_
  refine va_putF (D := (dC, dI)) (ci := 10) (v := .ref h1) (ty := .array .int) (C := RX10) (T := TX10) (N := 12) hx hb hG inGX10 tyX10 tyX10_ok nmX10 hown hK hP hD hS 0 rfl rfl 5 (by decide) (hG _ wd_288) (fun _ h9 => h9) rfl hin rfl (by decide +kernel) rfl rfl (Nat.le_of_ble_eq_true rfl) dX10_init_50 (fun H locs hP hD hS => ?_)
  obtain ⟨hP, hD⟩ := nv_eq (ws' := [(h0, .inr (10, [.ref q1, .ref q3, .ref q5, .ref q7, .ref q9, .ref h1, .int x0, .int x1, .int x2, .int x3, .int x4, .long z0])), (q1, .inl (ny2, 2501, .inl (fun _ => 0))), (q3, .inl (ny4, 2501, .inl (fun _ => 0))), (q5, .inl (ny6, 2501, .inl (fun _ => 0))), (q7, .inl (ny8, 2501, .inr (.inl (fun _ => 0)))), (q9, .inl (ny10, 35, .inr (.inl (fun _ => 0))))]) hP hD rfl
  refine lv_iconst (v := 0) hx hb dX10_init_53 (by decide) ?_
  refine lv_istore_n (lv' := [(2, .int 0), (0, .ref h0), (1, .ref h1)]) hx hb dX10_init_54 rfl hl (by decide) rfl (fun ls hl => ?_)
  refine jcut (a := ∀ (n : Nat) (b86 : Int32) (b87 : Nat → Int64) (ib86 : iv b86 0 35) (hm : (35 - b86.toInt).toNat < n) (H : Heap) (locs : List Loc) (hK : va_K (dC, dI) vwCl [(ny2, .int), (ny4, .int), (ny6, .int), (ny8, .long), (ny10, .long)] s) (hP : va_P (dC, dI) vwCl [(h0, .inr (10, [.ref q1, .ref q3, .ref q5, .ref q7, .ref q9, .ref h1, .int x0, .int x1, .int x2, .int x3, .int x4, .long z0])), (q1, .inl (ny2, 2501, .inl (fun _ => 0))), (q3, .inl (ny4, 2501, .inl (fun _ => 0))), (q5, .inl (ny6, 2501, .inl (fun _ => 0))), (q7, .inl (ny8, 2501, .inr (.inl (fun _ => 0)))), (q9, .inl (ny10, 35, .inr (.inl b87)))] H) (hD : va_D A [(h0, .inr (10, [.ref q1, .ref q3, .ref q5, .ref q7, .ref q9, .ref h1, .int x0, .int x1, .int x2, .int x3, .int x4, .long z0])), (q1, .inl (ny2, 2501, .inl (fun _ => 0))), (q3, .inl (ny4, 2501, .inl (fun _ => 0))), (q5, .inl (ny6, 2501, .inl (fun _ => 0))), (q7, .inl (ny8, 2501, .inr (.inl (fun _ => 0)))), (q9, .inl (ny10, 35, .inr (.inl b87)))]) (hS : va_S A s.heap H locs) (ls : Array Slot) (hl : lv_has ls 3 [(2, .int b86), (0, .ref h0)]), W p l e (headSpec (Cond.code yX10_init cX10_init 3 none :: lw_G) ({ frames := 6, cells := 5, slots := 10039, locals := 130 })).room s m ar below meth c H locs 5 10039 Q (F0 m 55 ls [])) ?_ (fun lp97 => ?_)
  · skip
    intro n
    induction n with
    | zero => intro b86 b87 ib86 hm H locs hK hP hD hS ls hl; exact absurd hm (Nat.not_lt_zero _)
    | succ n ih =>
      intro b86 b87 ib86 hm H locs hK hP hD hS ls hl
      refine lv_iload_n hx hb dX10_init_55 rfl (lv_at hl 0 rfl) ?_
      refine lv_bipush (v := 35) hx hb dX10_init_56 (by decide) ?_
      refine lv_icmp_ge (tgt := 77) hx hb dX10_init_58 (by decide) (fun c98 => ?_) (fun c98 => ?_)
      · skip
        have j105 : iv b86 35 35 := iv_leR (by decide : iv 35 35 35) ib86 c98 (by decide)
        rw [hQ]
        obtain ⟨hP9, hD9⟩ := nv_sub2 (wc := [(h0, .inr (10, [.ref q1, .ref q3, .ref q5, .ref q7, .ref q9, .ref h1, .int x0, .int x1, .int x2, .int x3, .int x4, .long z0])), (q1, .inl (ny2, 2501, .inl (fun _ => 0))), (q3, .inl (ny4, 2501, .inl (fun _ => 0))), (q5, .inl (ny6, 2501, .inl (fun _ => 0))), (q7, .inl (ny8, 2501, .inr (.inl (fun _ => 0)))), (q9, .inl (ny10, 35, .inr (.inl b87)))]) hP hD [0, 1, 2, 3, 4, 5] (by decide) rfl
        have hK9 := hK.sub (tys' := [(ny2, .int), (ny4, .int), (ny6, .int), (ny8, .long), (ny10, .long)]) [0, 1, 2, 3, 4] rfl
        refine W.widen (k := 5) (n := 10039) (by decide) (by decide) ?_
        exact W.vret hx hb hr (fun t ht hW => ⟨⟨(q1, q3, q5, q7, q9, ny2, ny4, ny6, ny8, ny10, b87), rfl, trivial, by rw [ht]; exact hP9, va_K.moved hW.alike hK9, hD9⟩, hS.F ht⟩) hS.2.2 dX10_init_77
      · skip
        have j106 : iv b86 0 34 := iv_nleR (by decide : iv 35 35 35) ib86 c98 (by decide)
        refine lv_aload_n hx hb dX10_init_61 rfl (lv_at hl 1 rfl) ?_
        refine va_get (D := (dC, dI)) (ci := 10) (v := .ref q9) (C := RX10) (T := TX10) (N := 12) hx hb hG inGX10 hown hK hP 0 rfl rfl 4 (by decide) (hG _ wd_287) (fun _ h9 => h9) rfl dX10_init_62 ?_
        refine lv_iload_n hx hb dX10_init_65 rfl (lv_at hl 0 rfl) ?_
        refine lv_iload_n hx hb dX10_init_66 rfl (lv_at hl 0 rfl) ?_
        obtain ⟨hPc, hDc, hFc⟩ := nv_sub3 (wc := []) hP hD hS hA [] (by decide) rfl
        have hKc := hK.sub (tys' := []) [] rfl
        refine va_calll (va_runS (As := [.int b86]) (rest := [.int b86, .ref q9]) ⟨hx, hb, hml, hown, hG⟩ (cX10_nameKey_1 l dC dI adK adV H.size b86) (va_cwS 1 hG (gS wd_228 wd_229 wd_11 wd_230) rfl rfl rfl (by decide +kernel) ⟨Nat.le_of_ble_eq_true rfl, Nat.le_of_ble_eq_true rfl⟩) ⟨fun a U g mk q => by obtain ⟨q0, q1, qP, qK, qD, qE⟩ := q; exact ⟨q0, q1, qP, va_K.moved (u := U) (U := U.calling g mk a) (Vm.Alike.refl U.vm) qK, qD, qE.same rfl⟩, fun U hU hW => ⟨rfl, by rw [hU], by rw [hU]; exact hPc, va_K.moved hW.alike hKc, hDc.weaken (fun _ _ _ _ => trivial), by rw [hU]; exact ((hE.kept hS.2.1).narrow hFc).warm hW⟩⟩ rfl rfl hl.1 rfl (lv_room (Nat.le_of_ble_eq_true rfl)) dX10_init_67 ⟨by decide, by decide⟩) hS (fun q _ h => hFc q h) hFc (fun r107 u108 t H1 locs ht hvm hw hB hz1 hk1 hS => ?_)
        obtain ⟨hP1, hK1, hD1⟩ := hB
        rw [ht] at hP1
        have hK1 := va_K.moved hvm.symm hK1
        obtain ⟨hP, hD⟩ := nv_join (wf := [(h0, .inr (10, [.ref q1, .ref q3, .ref q5, .ref q7, .ref q9, .ref h1, .int x0, .int x1, .int x2, .int x3, .int x4, .long z0])), (q1, .inl (ny2, 2501, .inl (fun _ => 0))), (q3, .inl (ny4, 2501, .inl (fun _ => 0))), (q5, .inl (ny6, 2501, .inl (fun _ => 0))), (q7, .inl (ny8, 2501, .inr (.inl (fun _ => 0)))), (q9, .inl (ny10, 35, .inr (.inl b87)))]) hP hD [] [0, 1, 2, 3, 4, 5] rfl rfl (by decide) (by decide) hk1 hFc hP1 hD1 rfl
        have hK := (hK.sub (tys' := [(ny2, .int), (ny4, .int), (ny6, .int), (ny8, .long), (ny10, .long)]) [0, 1, 2, 3, 4] rfl).app hK1
        generalize H1 = H at hP hS ⊢
        have hK : va_K (dC, dI) vwCl [(ny2, .int), (ny4, .int), (ny6, .int), (ny8, .long), (ny10, .long)] s := hK
        refine va_last hx hb hK hP hD hS 5 4 rfl rfl (iv_in j106 (by decide) (by decide) : vp_in b86 35) dX10_init_70 (fun H locs hP hD hS => ?_)
        obtain ⟨nf109, enf109⟩ : ∃ z, z = vp_updL b87 b86.toNatClampNeg r107 := ⟨_, rfl⟩
        obtain ⟨hP, hD⟩ := nv_eq (ws' := [(h0, .inr (10, [.ref q1, .ref q3, .ref q5, .ref q7, .ref q9, .ref h1, .int x0, .int x1, .int x2, .int x3, .int x4, .long z0])), (q1, .inl (ny2, 2501, .inl (fun _ => 0))), (q3, .inl (ny4, 2501, .inl (fun _ => 0))), (q5, .inl (ny6, 2501, .inl (fun _ => 0))), (q7, .inl (ny8, 2501, .inr (.inl (fun _ => 0)))), (q9, .inl (ny10, 35, .inr (.inl nf109)))]) hP hD (by subst enf109; rfl)
        obtain ⟨v110, ev110⟩ : ∃ y : Int32, y = b86 + Int32.ofInt 1 := ⟨_, rfl⟩
        have iv110 : iv v110 1 35 := iv_eq ev110 (iv_add j106 (by decide : iv (Int32.ofInt 1) 1 1) (by decide) (by decide))
        have tv110 : v110.toInt = b86.toInt + 1 := iv_addT ev110 j106 (by decide) (by decide) (by decide)
        refine lv_iinc (v := v110) (lv' := [(2, .int v110), (0, .ref h0)]) hx hb dX10_init_71 hl (k := 0) rfl ev110.symm (by decide) rfl (fun ls hl => ?_)
        refine lv_goto (tgt := 55) hx hb dX10_init_74 (by decide) ?_
        exact ih v110 nf109 (iv_w iv110 (by decide) (by decide)) (by omega) _ _ hK hP hD hS ls hl
  exact lp97 _ 0 (fun _ => 0) (iv_w (by decide : iv 0 0 0) (by decide) (by decide)) (Nat.lt_succ_self _) _ _ hK hP hD hS ls (lv_sub hl [0, 1] rfl)
set_option maxHeartbeats 100000000 in
set_option maxRecDepth 100000 in
theorem cX0_init_1 (l : Launch) (dC : Nat → ClassId) (dI : Nat → Nat → Nat) (adK adV : Nat → Nat) (h0 h1 : Nat) (sz : Nat) (x0 x1 x2 x3 x4 x5 x6 x7 x8 x9 : Int32) (ix0 : iv x0 0 2600) (ix1 : iv x1 0 1) (ix7 : iv x7 0 1) : Met l yX0_init (Cond.code yX0_init cX0_init 2 none :: lw_G) ({ frames := 7, cells := 18, slots := 15629, locals := 152 }) (va_Pc [.ref h0, .ref h1] (fun U => U.heap.size = sz ∧ va_P (dC, dI) vwCl [(h0, .inr (0, [.null, .null, .null, .null, .null, .null, .null, .int x0, .int x1, .int x2, .int x3, .int x4, .int x5, .int x6, .int x7, .int x8, .int x9]))] U.heap ∧ va_K (dC, dI) vwCl [] U ∧ va_D (fun _ => True) [(h0, .inr (0, [.null, .null, .null, .null, .null, .null, .null, .int x0, .int x1, .int x2, .int x3, .int x4, .int x5, .int x6, .int x7, .int x8, .int x9]))] ∧ ev adK adV (va_A [(h0, .inr (0, [.null, .null, .null, .null, .null, .null, .null, .int x0, .int x1, .int x2, .int x3, .int x4, .int x5, .int x6, .int x7, .int x8, .int x9]))] sz) U U.heap)) (va_Qv (fun (u : Nat × Nat × Nat × Nat × Nat × Nat × Nat × Nat × Nat × Nat × Nat × Nat × Nat × Nat × Nat × Nat × Nat × Nat × ClassId × ClassId × ClassId × ClassId × ClassId × ClassId × ClassId × ClassId × ClassId × ClassId × ClassId × ClassId × ClassId × (Nat → Int64)) => True) (fun (u : Nat × Nat × Nat × Nat × Nat × Nat × Nat × Nat × Nat × Nat × Nat × Nat × Nat × Nat × Nat × Nat × Nat × Nat × ClassId × ClassId × ClassId × ClassId × ClassId × ClassId × ClassId × ClassId × ClassId × ClassId × ClassId × ClassId × ClassId × (Nat → Int64)) (t : State) => va_P (dC, dI) vwCl [(h0, .inr (0, [.ref u.2.2.2.2.2.2.2.2.2.2.2.2.1, .ref u.1, .ref u.2.1, .ref u.2.2.1, .ref u.2.2.2.1, .ref u.2.2.2.2.1, .ref u.2.2.2.2.2.2.2.2.1, .int x0, .int x1, .int x2, .int x3, .int x4, .int x5, .int x6, .int x7, .int x8, .int x9])), (u.1, .inr (6, [.int 0, .int 0, .int 0, .int 0, .int 0])), (u.2.1, .inr (6, [.int 0, .int 0, .int 0, .int 0, .int 0])), (u.2.2.1, .inl (u.2.2.2.2.2.2.2.2.2.2.2.2.2.2.2.2.2.2.1, 2600, .inl (fun _ => 0))), (u.2.2.2.1, .inl (u.2.2.2.2.2.2.2.2.2.2.2.2.2.2.2.2.2.2.2.1, 2600, .inl (fun _ => 0))), (u.2.2.2.2.1, .inr (4, [.ref u.2.2.2.2.2.1, .ref u.2.2.2.2.2.2.1, .ref u.2.2.2.2.2.2.2.1, .int 0])), (u.2.2.2.2.2.1, .inl (u.2.2.2.2.2.2.2.2.2.2.2.2.2.2.2.2.2.2.2.2.1, 60, .inr (.inl (fun _ => 0)))), (u.2.2.2.2.2.2.1, .inl (u.2.2.2.2.2.2.2.2.2.2.2.2.2.2.2.2.2.2.2.2.2.1, 60, .inl (fun _ => 0))), (u.2.2.2.2.2.2.2.1, .inl (u.2.2.2.2.2.2.2.2.2.2.2.2.2.2.2.2.2.2.2.2.2.2.1, 60, .inl (fun _ => 0))), (u.2.2.2.2.2.2.2.2.1, .inr (4, [.ref u.2.2.2.2.2.2.2.2.2.1, .ref u.2.2.2.2.2.2.2.2.2.2.1, .ref u.2.2.2.2.2.2.2.2.2.2.2.1, .int 0])), (u.2.2.2.2.2.2.2.2.2.1, .inl (u.2.2.2.2.2.2.2.2.2.2.2.2.2.2.2.2.2.2.2.2.2.2.2.1, 60, .inr (.inl (fun _ => 0)))), (u.2.2.2.2.2.2.2.2.2.2.1, .inl (u.2.2.2.2.2.2.2.2.2.2.2.2.2.2.2.2.2.2.2.2.2.2.2.2.1, 60, .inl (fun _ => 0))), (u.2.2.2.2.2.2.2.2.2.2.2.1, .inl (u.2.2.2.2.2.2.2.2.2.2.2.2.2.2.2.2.2.2.2.2.2.2.2.2.2.1, 60, .inl (fun _ => 0))), (u.2.2.2.2.2.2.2.2.2.2.2.2.1, .inr (10, [.ref u.2.2.2.2.2.2.2.2.2.2.2.2.2.1, .ref u.2.2.2.2.2.2.2.2.2.2.2.2.2.2.1, .ref u.2.2.2.2.2.2.2.2.2.2.2.2.2.2.2.1, .ref u.2.2.2.2.2.2.2.2.2.2.2.2.2.2.2.2.1, .ref u.2.2.2.2.2.2.2.2.2.2.2.2.2.2.2.2.2.1, .ref h1, .int 0, .int 0, .int 0, .int 0, .int 0, .long 0])), (u.2.2.2.2.2.2.2.2.2.2.2.2.2.1, .inl (u.2.2.2.2.2.2.2.2.2.2.2.2.2.2.2.2.2.2.2.2.2.2.2.2.2.2.1, 2501, .inl (fun _ => 0))), (u.2.2.2.2.2.2.2.2.2.2.2.2.2.2.1, .inl (u.2.2.2.2.2.2.2.2.2.2.2.2.2.2.2.2.2.2.2.2.2.2.2.2.2.2.2.1, 2501, .inl (fun _ => 0))), (u.2.2.2.2.2.2.2.2.2.2.2.2.2.2.2.1, .inl (u.2.2.2.2.2.2.2.2.2.2.2.2.2.2.2.2.2.2.2.2.2.2.2.2.2.2.2.2.1, 2501, .inl (fun _ => 0))), (u.2.2.2.2.2.2.2.2.2.2.2.2.2.2.2.2.1, .inl (u.2.2.2.2.2.2.2.2.2.2.2.2.2.2.2.2.2.2.2.2.2.2.2.2.2.2.2.2.2.1, 2501, .inr (.inl (fun _ => 0)))), (u.2.2.2.2.2.2.2.2.2.2.2.2.2.2.2.2.2.1, .inl (u.2.2.2.2.2.2.2.2.2.2.2.2.2.2.2.2.2.2.2.2.2.2.2.2.2.2.2.2.2.2.1, 35, .inr (.inl u.2.2.2.2.2.2.2.2.2.2.2.2.2.2.2.2.2.2.2.2.2.2.2.2.2.2.2.2.2.2.2)))] t.heap ∧ va_K (dC, dI) vwCl [(u.2.2.2.2.2.2.2.2.2.2.2.2.2.2.2.2.2.2.1, .int), (u.2.2.2.2.2.2.2.2.2.2.2.2.2.2.2.2.2.2.2.1, .int), (u.2.2.2.2.2.2.2.2.2.2.2.2.2.2.2.2.2.2.2.2.1, .long), (u.2.2.2.2.2.2.2.2.2.2.2.2.2.2.2.2.2.2.2.2.2.1, .int), (u.2.2.2.2.2.2.2.2.2.2.2.2.2.2.2.2.2.2.2.2.2.2.1, .int), (u.2.2.2.2.2.2.2.2.2.2.2.2.2.2.2.2.2.2.2.2.2.2.2.1, .long), (u.2.2.2.2.2.2.2.2.2.2.2.2.2.2.2.2.2.2.2.2.2.2.2.2.1, .int), (u.2.2.2.2.2.2.2.2.2.2.2.2.2.2.2.2.2.2.2.2.2.2.2.2.2.1, .int), (u.2.2.2.2.2.2.2.2.2.2.2.2.2.2.2.2.2.2.2.2.2.2.2.2.2.2.1, .int), (u.2.2.2.2.2.2.2.2.2.2.2.2.2.2.2.2.2.2.2.2.2.2.2.2.2.2.2.1, .int), (u.2.2.2.2.2.2.2.2.2.2.2.2.2.2.2.2.2.2.2.2.2.2.2.2.2.2.2.2.1, .int), (u.2.2.2.2.2.2.2.2.2.2.2.2.2.2.2.2.2.2.2.2.2.2.2.2.2.2.2.2.2.1, .long), (u.2.2.2.2.2.2.2.2.2.2.2.2.2.2.2.2.2.2.2.2.2.2.2.2.2.2.2.2.2.2.1, .long)] t ∧ va_D (va_A [(h0, .inr (0, [.null, .null, .null, .null, .null, .null, .null, .int x0, .int x1, .int x2, .int x3, .int x4, .int x5, .int x6, .int x7, .int x8, .int x9]))] sz) [(h0, .inr (0, [.ref u.2.2.2.2.2.2.2.2.2.2.2.2.1, .ref u.1, .ref u.2.1, .ref u.2.2.1, .ref u.2.2.2.1, .ref u.2.2.2.2.1, .ref u.2.2.2.2.2.2.2.2.1, .int x0, .int x1, .int x2, .int x3, .int x4, .int x5, .int x6, .int x7, .int x8, .int x9])), (u.1, .inr (6, [.int 0, .int 0, .int 0, .int 0, .int 0])), (u.2.1, .inr (6, [.int 0, .int 0, .int 0, .int 0, .int 0])), (u.2.2.1, .inl (u.2.2.2.2.2.2.2.2.2.2.2.2.2.2.2.2.2.2.1, 2600, .inl (fun _ => 0))), (u.2.2.2.1, .inl (u.2.2.2.2.2.2.2.2.2.2.2.2.2.2.2.2.2.2.2.1, 2600, .inl (fun _ => 0))), (u.2.2.2.2.1, .inr (4, [.ref u.2.2.2.2.2.1, .ref u.2.2.2.2.2.2.1, .ref u.2.2.2.2.2.2.2.1, .int 0])), (u.2.2.2.2.2.1, .inl (u.2.2.2.2.2.2.2.2.2.2.2.2.2.2.2.2.2.2.2.2.1, 60, .inr (.inl (fun _ => 0)))), (u.2.2.2.2.2.2.1, .inl (u.2.2.2.2.2.2.2.2.2.2.2.2.2.2.2.2.2.2.2.2.2.1, 60, .inl (fun _ => 0))), (u.2.2.2.2.2.2.2.1, .inl (u.2.2.2.2.2.2.2.2.2.2.2.2.2.2.2.2.2.2.2.2.2.2.1, 60, .inl (fun _ => 0))), (u.2.2.2.2.2.2.2.2.1, .inr (4, [.ref u.2.2.2.2.2.2.2.2.2.1, .ref u.2.2.2.2.2.2.2.2.2.2.1, .ref u.2.2.2.2.2.2.2.2.2.2.2.1, .int 0])), (u.2.2.2.2.2.2.2.2.2.1, .inl (u.2.2.2.2.2.2.2.2.2.2.2.2.2.2.2.2.2.2.2.2.2.2.2.1, 60, .inr (.inl (fun _ => 0)))), (u.2.2.2.2.2.2.2.2.2.2.1, .inl (u.2.2.2.2.2.2.2.2.2.2.2.2.2.2.2.2.2.2.2.2.2.2.2.2.1, 60, .inl (fun _ => 0))), (u.2.2.2.2.2.2.2.2.2.2.2.1, .inl (u.2.2.2.2.2.2.2.2.2.2.2.2.2.2.2.2.2.2.2.2.2.2.2.2.2.1, 60, .inl (fun _ => 0))), (u.2.2.2.2.2.2.2.2.2.2.2.2.1, .inr (10, [.ref u.2.2.2.2.2.2.2.2.2.2.2.2.2.1, .ref u.2.2.2.2.2.2.2.2.2.2.2.2.2.2.1, .ref u.2.2.2.2.2.2.2.2.2.2.2.2.2.2.2.1, .ref u.2.2.2.2.2.2.2.2.2.2.2.2.2.2.2.2.1, .ref u.2.2.2.2.2.2.2.2.2.2.2.2.2.2.2.2.2.1, .ref h1, .int 0, .int 0, .int 0, .int 0, .int 0, .long 0])), (u.2.2.2.2.2.2.2.2.2.2.2.2.2.1, .inl (u.2.2.2.2.2.2.2.2.2.2.2.2.2.2.2.2.2.2.2.2.2.2.2.2.2.2.1, 2501, .inl (fun _ => 0))), (u.2.2.2.2.2.2.2.2.2.2.2.2.2.2.1, .inl (u.2.2.2.2.2.2.2.2.2.2.2.2.2.2.2.2.2.2.2.2.2.2.2.2.2.2.2.1, 2501, .inl (fun _ => 0))), (u.2.2.2.2.2.2.2.2.2.2.2.2.2.2.2.1, .inl (u.2.2.2.2.2.2.2.2.2.2.2.2.2.2.2.2.2.2.2.2.2.2.2.2.2.2.2.2.1, 2501, .inl (fun _ => 0))), (u.2.2.2.2.2.2.2.2.2.2.2.2.2.2.2.2.1, .inl (u.2.2.2.2.2.2.2.2.2.2.2.2.2.2.2.2.2.2.2.2.2.2.2.2.2.2.2.2.2.1, 2501, .inr (.inl (fun _ => 0)))), (u.2.2.2.2.2.2.2.2.2.2.2.2.2.2.2.2.2.1, .inl (u.2.2.2.2.2.2.2.2.2.2.2.2.2.2.2.2.2.2.2.2.2.2.2.2.2.2.2.2.2.2.1, 35, .inr (.inl u.2.2.2.2.2.2.2.2.2.2.2.2.2.2.2.2.2.2.2.2.2.2.2.2.2.2.2.2.2.2.2)))]) (va_A [(h0, .inr (0, [.null, .null, .null, .null, .null, .null, .null, .int x0, .int x1, .int x2, .int x3, .int x4, .int x5, .int x6, .int x7, .int x8, .int x9]))] sz)) 18 15629 (va_A [(h0, .inr (0, [.null, .null, .null, .null, .null, .null, .null, .int x0, .int x1, .int x2, .int x3, .int x4, .int x5, .int x6, .int x7, .int x8, .int x9]))] sz) := by
  refine Met.ofW (cc := cX0_init) (maxL := 2) (ret := none) (by decide) rfl ?_
  intro p e s m args below meth c s₁ B hml hv
  obtain ⟨rfl, hsz, hP, hK, hD0, hE⟩ := hv
  have hx := B.exec
  have hb := B.bytes
  have hr := B.returns
  have hts0 := atoms_spec (ws := Cond.code yX0_init cX0_init 2 none :: lw_G) B.pre
  have hG : ∀ w ∈ lw_G, w.before _ s = true := fun w h => hts0 w (List.mem_cons_of_mem _ h)
  have hown : s.vm.findClass RX0 = some m.cls := findClass_of_methodNamed B.named
  have hlocks := B.notSynchronized
  have hin : meth.name = "<init>" := (name_of_methodNamed B.named B.method).1
  subst hsz
  have hD := hD0.self (sz := s.heap.size)
  generalize hAe : va_A [(h0, .inr (0, [.null, .null, .null, .null, .null, .null, .null, .int x0, .int x1, .int x2, .int x3, .int x4, .int x5, .int x6, .int x7, .int x8, .int x9]))] s.heap.size = A at hD hE ⊢
  have hA : ∀ q : Nat, s.heap.size ≤ q → A q := fun q h => by rw [← hAe]; exact Or.inr h
  have hS : va_S A s.heap s.heap [] := va_S.rf
  have hP : va_P (dC, dI) vwCl [(h0, .inr (0, [.null, .null, .null, .null, .null, .null, .null, .int x0, .int x1, .int x2, .int x3, .int x4, .int x5, .int x6, .int x7, .int x8, .int x9]))] s.heap := hP
  have hl := lv_entry ([.ref h0, .ref h1]) (n := 2) (Nat.le_of_ble_eq_true rfl)
  rw [lg_entry_eq]
  generalize (lg_sl ([.ref h0, .ref h1]) ++ List.replicate (2 - (lg_sl ([.ref h0, .ref h1])).length) Slot.unset).toArray = ls at hl ⊢
  have hl : lv_has ls 2 [(0, .ref h0), (1, .ref h1)] := hl
  generalize ([.ref h0, .ref h1] : List Value).toArray = ar at hG ⊢
  refine wq (fun Q hQ => ?_)
  refine lv_aload_n hx hb dX0_init_0 rfl (lv_at hl 0 rfl) ?_
  refine W.objInit hx hb hown (hG _ wd_179) (hG _ wd_32) (hG _ wd_33) rfl (by rw [hml]; exact hl.1) rfl dX0_init_1 (Nat.le_of_ble_eq_true rfl) (Nat.le_of_ble_eq_true rfl) ?_
  refine W.eq (g2 := F0 m 4 ls []) rfl ?_
  refine lv_aload_n hx hb dX0_init_4 rfl (lv_at hl 0 rfl) ?_
  refine va_new (ci := 6) (fs := [.int 0, .int 0, .int 0, .int 0, .int 0]) (C := RX6) (T := TX6) (N := 5) hx hb hG inGX6 tyX6 tyX6_ok hown (hG _ wd_180) (hG _ wd_181) (hG _ wd_9) hK hP hD hS hA rfl (fun j hj => by rcases (show j = 0 ∨ j = 1 ∨ j = 2 ∨ j = 3 ∨ j = 4 by omega) with rfl | rfl | rfl | rfl | rfl <;> rfl) (by decide) (by decide) dX0_init_5 (fun q1 H hP hD hS => ?_)
  obtain ⟨hP, hD⟩ := nv_eq (ws' := [(h0, .inr (0, [.null, .null, .null, .null, .null, .null, .null, .int x0, .int x1, .int x2, .int x3, .int x4, .int x5, .int x6, .int x7, .int x8, .int x9])), (q1, .inr (6, [.int 0, .int 0, .int 0, .int 0, .int 0]))]) hP hD rfl
  refine W.widen (k := 1) (n := 5) (by decide) (by decide) ?_
  refine lv_dup hx hb dX0_init_8 rfl ?_
  obtain ⟨hPc, hDc, hFc⟩ := nv_sub3 (wc := [(q1, .inr (6, [.int 0, .int 0, .int 0, .int 0, .int 0]))]) hP hD hS hA [1] (by decide) rfl
  have hKc := hK.sub (tys' := []) [] rfl
  refine va_callv (va_runIN (As := []) (rest := [.ref q1, .ref h0]) ⟨hx, hb, hml, hown, hG⟩ (cX6_init_1 l dC dI q1 H.size 0 0 0 0 0 (iv_w (by decide : iv 0 0 0) (by decide) (by decide)) (iv_w (by decide : iv 0 0 0) (by decide) (by decide))) ⟨va_cnB 0 hG (gC wd_184) rfl rfl rfl (evW5 hE) (hG _ wd_9) (by decide +kernel) ⟨Nat.le_of_ble_eq_true rfl, Nat.le_of_ble_eq_true rfl⟩, rfl, (hG _ wd_183)⟩ ⟨fun a U g mk q => by obtain ⟨q0, q1, qP, qK, qD⟩ := q; exact ⟨q0, q1, qP, va_K.moved (u := U) (U := U.calling g mk a) (Vm.Alike.refl U.vm) qK, qD⟩, fun U hU hW => ⟨rfl, by rw [hU], by rw [hU]; exact hPc, va_K.moved hW.alike hKc, hDc.weaken (fun _ _ _ _ => trivial)⟩⟩ rfl rfl hl.1 rfl (lv_room (Nat.le_of_ble_eq_true rfl)) dX0_init_9 ⟨by decide, by decide⟩) hS (fun q _ h => hFc q h) hFc (fun u3 t H1 locs ht hvm hw hB hz1 hk1 hS => ?_)
  obtain ⟨hP1, hK1, hD1⟩ := hB
  rw [ht] at hP1
  have hK1 := va_K.moved hvm.symm hK1
  obtain ⟨hP, hD⟩ := nv_join (wf := [(h0, .inr (0, [.null, .null, .null, .null, .null, .null, .null, .int x0, .int x1, .int x2, .int x3, .int x4, .int x5, .int x6, .int x7, .int x8, .int x9])), (q1, .inr (6, [.int 0, .int 0, .int 0, .int 0, .int 0]))]) hP hD [1] [0] rfl rfl (by decide) (by decide) hk1 hFc hP1 hD1 rfl
  have hK := (hK.sub (tys' := []) [] rfl).app hK1
  generalize H1 = H at hP hS ⊢
  have hK : va_K (dC, dI) vwCl [] s := hK
  refine va_putF (D := (dC, dI)) (ci := 0) (v := .ref q1) (ty := .object "NapMachine$Operand") (C := RX0) (T := TX0) (N := 17) hx hb hG inGX0 tyX0 tyX0_ok nmX0 hown hK hP hD hS 0 rfl rfl 1 (by decide) (hG _ wd_322) (fun _ h9 => h9) rfl hin rfl (by decide +kernel) rfl rfl (Nat.le_of_ble_eq_true rfl) dX0_init_12 (fun H locs hP hD hS => ?_)
  obtain ⟨hP, hD⟩ := nv_eq (ws' := [(h0, .inr (0, [.null, .ref q1, .null, .null, .null, .null, .null, .int x0, .int x1, .int x2, .int x3, .int x4, .int x5, .int x6, .int x7, .int x8, .int x9])), (q1, .inr (6, [.int 0, .int 0, .int 0, .int 0, .int 0]))]) hP hD rfl
  refine lv_aload_n hx hb dX0_init_15 rfl (lv_at hl 0 rfl) ?_
  refine va_new (ci := 6) (fs := [.int 0, .int 0, .int 0, .int 0, .int 0]) (C := RX6) (T := TX6) (N := 5) hx hb hG inGX6 tyX6 tyX6_ok hown (hG _ wd_180) (hG _ wd_181) (hG _ wd_9) hK hP hD hS hA rfl (fun j hj => by rcases (show j = 0 ∨ j = 1 ∨ j = 2 ∨ j = 3 ∨ j = 4 by omega) with rfl | rfl | rfl | rfl | rfl <;> rfl) (by decide) (by decide) dX0_init_16 (fun q4 H hP hD hS => ?_)
  obtain ⟨hP, hD⟩ := nv_eq (ws' := [(h0, .inr (0, [.null, .ref q1, .null, .null, .null, .null, .null, .int x0, .int x1, .int x2, .int x3, .int x4, .int x5, .int x6, .int x7, .int x8, .int x9])), (q1, .inr (6, [.int 0, .int 0, .int 0, .int 0, .int 0])), (q4, .inr (6, [.int 0, .int 0, .int 0, .int 0, .int 0]))]) hP hD rfl
  refine W.widen (k := 2) (n := 10) (by decide) (by decide) ?_
  refine lv_dup hx hb dX0_init_19 rfl ?_
  obtain ⟨hPc, hDc, hFc⟩ := nv_sub3 (wc := [(q4, .inr (6, [.int 0, .int 0, .int 0, .int 0, .int 0]))]) hP hD hS hA [2] (by decide) rfl
  have hKc := hK.sub (tys' := []) [] rfl
  refine va_callv (va_runIN (As := []) (rest := [.ref q4, .ref h0]) ⟨hx, hb, hml, hown, hG⟩ (cX6_init_1 l dC dI q4 H.size 0 0 0 0 0 (iv_w (by decide : iv 0 0 0) (by decide) (by decide)) (iv_w (by decide : iv 0 0 0) (by decide) (by decide))) ⟨va_cnB 0 hG (gC wd_184) rfl rfl rfl (evW5 hE) (hG _ wd_9) (by decide +kernel) ⟨Nat.le_of_ble_eq_true rfl, Nat.le_of_ble_eq_true rfl⟩, rfl, (hG _ wd_183)⟩ ⟨fun a U g mk q => by obtain ⟨q0, q1, qP, qK, qD⟩ := q; exact ⟨q0, q1, qP, va_K.moved (u := U) (U := U.calling g mk a) (Vm.Alike.refl U.vm) qK, qD⟩, fun U hU hW => ⟨rfl, by rw [hU], by rw [hU]; exact hPc, va_K.moved hW.alike hKc, hDc.weaken (fun _ _ _ _ => trivial)⟩⟩ rfl rfl hl.1 rfl (lv_room (Nat.le_of_ble_eq_true rfl)) dX0_init_20 ⟨by decide, by decide⟩) hS (fun q _ h => hFc q h) hFc (fun u6 t H1 locs ht hvm hw hB hz1 hk1 hS => ?_)
  obtain ⟨hP1, hK1, hD1⟩ := hB
  rw [ht] at hP1
  have hK1 := va_K.moved hvm.symm hK1
  obtain ⟨hP, hD⟩ := nv_join (wf := [(h0, .inr (0, [.null, .ref q1, .null, .null, .null, .null, .null, .int x0, .int x1, .int x2, .int x3, .int x4, .int x5, .int x6, .int x7, .int x8, .int x9])), (q1, .inr (6, [.int 0, .int 0, .int 0, .int 0, .int 0])), (q4, .inr (6, [.int 0, .int 0, .int 0, .int 0, .int 0]))]) hP hD [2] [0, 1] rfl rfl (by decide) (by decide) hk1 hFc hP1 hD1 rfl
  have hK := (hK.sub (tys' := []) [] rfl).app hK1
  generalize H1 = H at hP hS ⊢
  have hK : va_K (dC, dI) vwCl [] s := hK
  refine va_putF (D := (dC, dI)) (ci := 0) (v := .ref q4) (ty := .object "NapMachine$Operand") (C := RX0) (T := TX0) (N := 17) hx hb hG inGX0 tyX0 tyX0_ok nmX0 hown hK hP hD hS 0 rfl rfl 2 (by decide) (hG _ wd_323) (fun _ h9 => h9) rfl hin rfl (by decide +kernel) rfl rfl (Nat.le_of_ble_eq_true rfl) dX0_init_23 (fun H locs hP hD hS => ?_)
  obtain ⟨hP, hD⟩ := nv_eq (ws' := [(h0, .inr (0, [.null, .ref q1, .ref q4, .null, .null, .null, .null, .int x0, .int x1, .int x2, .int x3, .int x4, .int x5, .int x6, .int x7, .int x8, .int x9])), (q1, .inr (6, [.int 0, .int 0, .int 0, .int 0, .int 0])), (q4, .inr (6, [.int 0, .int 0, .int 0, .int 0, .int 0]))]) hP hD rfl
  refine lv_aload_n hx hb dX0_init_26 rfl (lv_at hl 0 rfl) ?_
  refine lv_sipush (v := 2600) hx hb dX0_init_27 (by decide) ?_
  refine va_newa (atype := .int) (ty := .int) (a0 := (2600, (.inl (fun _ => 0)))) hx hb (hG _ wd_63) rfl hK hP hD hS hA (fun _ => rfl) (by decide) (by decide) (by decide) (by decide) (by decide) dX0_init_30 (fun q7 ny8 H hK hP hD hS => ?_)
  obtain ⟨hP, hD⟩ := nv_eq (ws' := [(h0, .inr (0, [.null, .ref q1, .ref q4, .null, .null, .null, .null, .int x0, .int x1, .int x2, .int x3, .int x4, .int x5, .int x6, .int x7, .int x8, .int x9])), (q1, .inr (6, [.int 0, .int 0, .int 0, .int 0, .int 0])), (q4, .inr (6, [.int 0, .int 0, .int 0, .int 0, .int 0])), (q7, .inl (ny8, 2600, .inl (fun _ => 0)))]) hP hD rfl
  have hK : va_K (dC, dI) vwCl [(ny8, .int)] s := hK
  refine W.widen (k := 3) (n := 2610) (by decide) (by decide) ?_
  refine va_putF (D := (dC, dI)) (ci := 0) (v := .ref q7) (ty := .array .int) (C := RX0) (T := TX0) (N := 17) hx hb hG inGX0 tyX0 tyX0_ok nmX0 hown hK hP hD hS 0 rfl rfl 3 (by decide) (hG _ wd_324) (fun _ h9 => h9) rfl hin rfl (by decide +kernel) rfl rfl (Nat.le_of_ble_eq_true rfl) dX0_init_32 (fun H locs hP hD hS => ?_)
  obtain ⟨hP, hD⟩ := nv_eq (ws' := [(h0, .inr (0, [.null, .ref q1, .ref q4, .ref q7, .null, .null, .null, .int x0, .int x1, .int x2, .int x3, .int x4, .int x5, .int x6, .int x7, .int x8, .int x9])), (q1, .inr (6, [.int 0, .int 0, .int 0, .int 0, .int 0])), (q4, .inr (6, [.int 0, .int 0, .int 0, .int 0, .int 0])), (q7, .inl (ny8, 2600, .inl (fun _ => 0)))]) hP hD rfl
  refine lv_aload_n hx hb dX0_init_35 rfl (lv_at hl 0 rfl) ?_
  refine lv_sipush (v := 2600) hx hb dX0_init_36 (by decide) ?_
  refine va_newa (atype := .int) (ty := .int) (a0 := (2600, (.inl (fun _ => 0)))) hx hb (hG _ wd_63) rfl hK hP hD hS hA (fun _ => rfl) (by decide) (by decide) (by decide) (by decide) (by decide) dX0_init_39 (fun q9 ny10 H hK hP hD hS => ?_)
  obtain ⟨hP, hD⟩ := nv_eq (ws' := [(h0, .inr (0, [.null, .ref q1, .ref q4, .ref q7, .null, .null, .null, .int x0, .int x1, .int x2, .int x3, .int x4, .int x5, .int x6, .int x7, .int x8, .int x9])), (q1, .inr (6, [.int 0, .int 0, .int 0, .int 0, .int 0])), (q4, .inr (6, [.int 0, .int 0, .int 0, .int 0, .int 0])), (q7, .inl (ny8, 2600, .inl (fun _ => 0))), (q9, .inl (ny10, 2600, .inl (fun _ => 0)))]) hP hD rfl
  have hK : va_K (dC, dI) vwCl [(ny8, .int), (ny10, .int)] s := hK
  refine W.widen (k := 4) (n := 5210) (by decide) (by decide) ?_
  refine va_putF (D := (dC, dI)) (ci := 0) (v := .ref q9) (ty := .array .int) (C := RX0) (T := TX0) (N := 17) hx hb hG inGX0 tyX0 tyX0_ok nmX0 hown hK hP hD hS 0 rfl rfl 4 (by decide) (hG _ wd_325) (fun _ h9 => h9) rfl hin rfl (by decide +kernel) rfl rfl (Nat.le_of_ble_eq_true rfl) dX0_init_41 (fun H locs hP hD hS => ?_)
  obtain ⟨hP, hD⟩ := nv_eq (ws' := [(h0, .inr (0, [.null, .ref q1, .ref q4, .ref q7, .ref q9, .null, .null, .int x0, .int x1, .int x2, .int x3, .int x4, .int x5, .int x6, .int x7, .int x8, .int x9])), (q1, .inr (6, [.int 0, .int 0, .int 0, .int 0, .int 0])), (q4, .inr (6, [.int 0, .int 0, .int 0, .int 0, .int 0])), (q7, .inl (ny8, 2600, .inl (fun _ => 0))), (q9, .inl (ny10, 2600, .inl (fun _ => 0)))]) hP hD rfl
  refine lv_aload_n hx hb dX0_init_44 rfl (lv_at hl 0 rfl) ?_
  refine va_new (ci := 4) (fs := [.null, .null, .null, .int 0]) (C := RX4) (T := TX4) (N := 4) hx hb hG inGX4 tyX4 tyX4_ok hown (hG _ wd_202) (hG _ wd_203) (hG _ wd_10) hK hP hD hS hA rfl (fun j hj => by rcases (show j = 0 ∨ j = 1 ∨ j = 2 ∨ j = 3 by omega) with rfl | rfl | rfl | rfl <;> rfl) (by decide) (by decide) dX0_init_45 (fun q11 H hP hD hS => ?_)
  obtain ⟨hP, hD⟩ := nv_eq (ws' := [(h0, .inr (0, [.null, .ref q1, .ref q4, .ref q7, .ref q9, .null, .null, .int x0, .int x1, .int x2, .int x3, .int x4, .int x5, .int x6, .int x7, .int x8, .int x9])), (q1, .inr (6, [.int 0, .int 0, .int 0, .int 0, .int 0])), (q4, .inr (6, [.int 0, .int 0, .int 0, .int 0, .int 0])), (q7, .inl (ny8, 2600, .inl (fun _ => 0))), (q9, .inl (ny10, 2600, .inl (fun _ => 0))), (q11, .inr (4, [.null, .null, .null, .int 0]))]) hP hD rfl
  refine W.widen (k := 5) (n := 5214) (by decide) (by decide) ?_
  refine lv_dup hx hb dX0_init_48 rfl ?_
  obtain ⟨hPc, hDc, hFc⟩ := nv_sub3 (wc := [(q11, .inr (4, [.null, .null, .null, .int 0]))]) hP hD hS hA [5] (by decide) rfl
  have hKc := hK.sub (tys' := []) [] rfl
  refine va_callv (va_runIN (As := []) (rest := [.ref q11, .ref h0]) ⟨hx, hb, hml, hown, hG⟩ (cX4_init_1 l dC dI q11 H.size 0 (iv_w (by decide : iv 0 0 0) (by decide) (by decide))) ⟨va_cnB 0 hG (gC wd_206) rfl rfl rfl (evW6 hE) (hG _ wd_10) (by decide +kernel) ⟨Nat.le_of_ble_eq_true rfl, Nat.le_of_ble_eq_true rfl⟩, rfl, (hG _ wd_205)⟩ ⟨fun a U g mk q => by obtain ⟨q0, q1, qP, qK, qD⟩ := q; exact ⟨q0, q1, qP, va_K.moved (u := U) (U := U.calling g mk a) (Vm.Alike.refl U.vm) qK, qD⟩, fun U hU hW => ⟨rfl, by rw [hU], by rw [hU]; exact hPc, va_K.moved hW.alike hKc, hDc.weaken (fun _ _ _ _ => trivial)⟩⟩ rfl rfl hl.1 rfl (lv_room (Nat.le_of_ble_eq_true rfl)) dX0_init_49 ⟨by decide, by decide⟩) hS (fun q _ h => hFc q h) hFc (fun u13 t H1 locs ht hvm hw hB hz1 hk1 hS => ?_)
  obtain ⟨u13_0, u13_1, u13_2, u13_3, u13_4, u13_5⟩ := u13
  obtain ⟨hP1, hK1, hD1⟩ := hB
  rw [ht] at hP1
  have hK1 := va_K.moved hvm.symm hK1
  obtain ⟨hP, hD⟩ := nv_join (wf := [(h0, .inr (0, [.null, .ref q1, .ref q4, .ref q7, .ref q9, .null, .null, .int x0, .int x1, .int x2, .int x3, .int x4, .int x5, .int x6, .int x7, .int x8, .int x9])), (q1, .inr (6, [.int 0, .int 0, .int 0, .int 0, .int 0])), (q4, .inr (6, [.int 0, .int 0, .int 0, .int 0, .int 0])), (q7, .inl (ny8, 2600, .inl (fun _ => 0))), (q9, .inl (ny10, 2600, .inl (fun _ => 0))), (q11, .inr (4, [.ref u13_0, .ref u13_1, .ref u13_2, .int 0])), (u13_0, .inl (u13_3, 60, .inr (.inl (fun _ => 0)))), (u13_1, .inl (u13_4, 60, .inl (fun _ => 0))), (u13_2, .inl (u13_5, 60, .inl (fun _ => 0)))]) hP hD [5] [0, 1, 2, 3, 4] rfl rfl (by decide) (by decide) hk1 hFc hP1 hD1 rfl
  have hK := (hK.sub (tys' := [(ny8, .int), (ny10, .int)]) [0, 1] rfl).app hK1
  generalize H1 = H at hP hS ⊢
  have hK : va_K (dC, dI) vwCl [(ny8, .int), (ny10, .int), (u13_3, .long), (u13_4, .int), (u13_5, .int)] s := hK
  refine W.widen (k := 8) (n := 5394) (by decide) (by decide) ?_
  refine va_put (D := (dC, dI)) (ci := 0) (v := .ref q11) (ty := .object "NapMachine$Labels") (C := RX0) (T := TX0) (N := 17) hx hb hG inGX0 tyX0 tyX0_ok nmX0 hown hK hP hD hS 0 rfl rfl 5 (by decide) (hG _ wd_326) (fun _ h9 => h9) rfl (by decide +kernel) rfl rfl (Nat.le_of_ble_eq_true rfl) dX0_init_52 (fun H locs hP hD hS => ?_)
  obtain ⟨hP, hD⟩ := nv_eq (ws' := [(h0, .inr (0, [.null, .ref q1, .ref q4, .ref q7, .ref q9, .ref q11, .null, .int x0, .int x1, .int x2, .int x3, .int x4, .int x5, .int x6, .int x7, .int x8, .int x9])), (q1, .inr (6, [.int 0, .int 0, .int 0, .int 0, .int 0])), (q4, .inr (6, [.int 0, .int 0, .int 0, .int 0, .int 0])), (q7, .inl (ny8, 2600, .inl (fun _ => 0))), (q9, .inl (ny10, 2600, .inl (fun _ => 0))), (q11, .inr (4, [.ref u13_0, .ref u13_1, .ref u13_2, .int 0])), (u13_0, .inl (u13_3, 60, .inr (.inl (fun _ => 0)))), (u13_1, .inl (u13_4, 60, .inl (fun _ => 0))), (u13_2, .inl (u13_5, 60, .inl (fun _ => 0)))]) hP hD rfl
  refine lv_aload_n hx hb dX0_init_55 rfl (lv_at hl 0 rfl) ?_
  refine va_new (ci := 4) (fs := [.null, .null, .null, .int 0]) (C := RX4) (T := TX4) (N := 4) hx hb hG inGX4 tyX4 tyX4_ok hown (hG _ wd_202) (hG _ wd_203) (hG _ wd_10) hK hP hD hS hA rfl (fun j hj => by rcases (show j = 0 ∨ j = 1 ∨ j = 2 ∨ j = 3 by omega) with rfl | rfl | rfl | rfl <;> rfl) (by decide) (by decide) dX0_init_56 (fun q14 H hP hD hS => ?_)
  obtain ⟨hP, hD⟩ := nv_eq (ws' := [(h0, .inr (0, [.null, .ref q1, .ref q4, .ref q7, .ref q9, .ref q11, .null, .int x0, .int x1, .int x2, .int x3, .int x4, .int x5, .int x6, .int x7, .int x8, .int x9])), (q1, .inr (6, [.int 0, .int 0, .int 0, .int 0, .int 0])), (q4, .inr (6, [.int 0, .int 0, .int 0, .int 0, .int 0])), (q7, .inl (ny8, 2600, .inl (fun _ => 0))), (q9, .inl (ny10, 2600, .inl (fun _ => 0))), (q11, .inr (4, [.ref u13_0, .ref u13_1, .ref u13_2, .int 0])), (u13_0, .inl (u13_3, 60, .inr (.inl (fun _ => 0)))), (u13_1, .inl (u13_4, 60, .inl (fun _ => 0))), (u13_2, .inl (u13_5, 60, .inl (fun _ => 0))), (q14, .inr (4, [.null, .null, .null, .int 0]))]) hP hD rfl
  refine W.widen (k := 9) (n := 5398) (by decide) (by decide) ?_
  refine lv_dup hx hb dX0_init_59 rfl ?_
  obtain ⟨hPc, hDc, hFc⟩ := nv_sub3 (wc := [(q14, .inr (4, [.null, .null, .null, .int 0]))]) hP hD hS hA [9] (by decide) rfl
  have hKc := hK.sub (tys' := []) [] rfl
  refine va_callv (va_runIN (As := []) (rest := [.ref q14, .ref h0]) ⟨hx, hb, hml, hown, hG⟩ (cX4_init_1 l dC dI q14 H.size 0 (iv_w (by decide : iv 0 0 0) (by decide) (by decide))) ⟨va_cnB 0 hG (gC wd_206) rfl rfl rfl (evW6 hE) (hG _ wd_10) (by decide +kernel) ⟨Nat.le_of_ble_eq_true rfl, Nat.le_of_ble_eq_true rfl⟩, rfl, (hG _ wd_205)⟩ ⟨fun a U g mk q => by obtain ⟨q0, q1, qP, qK, qD⟩ := q; exact ⟨q0, q1, qP, va_K.moved (u := U) (U := U.calling g mk a) (Vm.Alike.refl U.vm) qK, qD⟩, fun U hU hW => ⟨rfl, by rw [hU], by rw [hU]; exact hPc, va_K.moved hW.alike hKc, hDc.weaken (fun _ _ _ _ => trivial)⟩⟩ rfl rfl hl.1 rfl (lv_room (Nat.le_of_ble_eq_true rfl)) dX0_init_60 ⟨by decide, by decide⟩) hS (fun q _ h => hFc q h) hFc (fun u16 t H1 locs ht hvm hw hB hz1 hk1 hS => ?_)
  obtain ⟨u16_0, u16_1, u16_2, u16_3, u16_4, u16_5⟩ := u16
  obtain ⟨hP1, hK1, hD1⟩ := hB
  rw [ht] at hP1
  have hK1 := va_K.moved hvm.symm hK1
  obtain ⟨hP, hD⟩ := nv_join (wf := [(h0, .inr (0, [.null, .ref q1, .ref q4, .ref q7, .ref q9, .ref q11, .null, .int x0, .int x1, .int x2, .int x3, .int x4, .int x5, .int x6, .int x7, .int x8, .int x9])), (q1, .inr (6, [.int 0, .int 0, .int 0, .int 0, .int 0])), (q4, .inr (6, [.int 0, .int 0, .int 0, .int 0, .int 0])), (q7, .inl (ny8, 2600, .inl (fun _ => 0))), (q9, .inl (ny10, 2600, .inl (fun _ => 0))), (q11, .inr (4, [.ref u13_0, .ref u13_1, .ref u13_2, .int 0])), (u13_0, .inl (u13_3, 60, .inr (.inl (fun _ => 0)))), (u13_1, .inl (u13_4, 60, .inl (fun _ => 0))), (u13_2, .inl (u13_5, 60, .inl (fun _ => 0))), (q14, .inr (4, [.ref u16_0, .ref u16_1, .ref u16_2, .int 0])), (u16_0, .inl (u16_3, 60, .inr (.inl (fun _ => 0)))), (u16_1, .inl (u16_4, 60, .inl (fun _ => 0))), (u16_2, .inl (u16_5, 60, .inl (fun _ => 0)))]) hP hD [9] [0, 1, 2, 3, 4, 5, 6, 7, 8] rfl rfl (by decide) (by decide) hk1 hFc hP1 hD1 rfl
  have hK := (hK.sub (tys' := [(ny8, .int), (ny10, .int), (u13_3, .long), (u13_4, .int), (u13_5, .int)]) [0, 1, 2, 3, 4] rfl).app hK1
  generalize H1 = H at hP hS ⊢
  have hK : va_K (dC, dI) vwCl [(ny8, .int), (ny10, .int), (u13_3, .long), (u13_4, .int), (u13_5, .int), (u16_3, .long), (u16_4, .int), (u16_5, .int)] s := hK
  refine W.widen (k := 12) (n := 5578) (by decide) (by decide) ?_
  refine va_put (D := (dC, dI)) (ci := 0) (v := .ref q14) (ty := .object "NapMachine$Labels") (C := RX0) (T := TX0) (N := 17) hx hb hG inGX0 tyX0 tyX0_ok nmX0 hown hK hP hD hS 0 rfl rfl 6 (by decide) (hG _ wd_327) (fun _ h9 => h9) rfl (by decide +kernel) rfl rfl (Nat.le_of_ble_eq_true rfl) dX0_init_63 (fun H locs hP hD hS => ?_)
  obtain ⟨hP, hD⟩ := nv_eq (ws' := [(h0, .inr (0, [.null, .ref q1, .ref q4, .ref q7, .ref q9, .ref q11, .ref q14, .int x0, .int x1, .int x2, .int x3, .int x4, .int x5, .int x6, .int x7, .int x8, .int x9])), (q1, .inr (6, [.int 0, .int 0, .int 0, .int 0, .int 0])), (q4, .inr (6, [.int 0, .int 0, .int 0, .int 0, .int 0])), (q7, .inl (ny8, 2600, .inl (fun _ => 0))), (q9, .inl (ny10, 2600, .inl (fun _ => 0))), (q11, .inr (4, [.ref u13_0, .ref u13_1, .ref u13_2, .int 0])), (u13_0, .inl (u13_3, 60, .inr (.inl (fun _ => 0)))), (u13_1, .inl (u13_4, 60, .inl (fun _ => 0))), (u13_2, .inl (u13_5, 60, .inl (fun _ => 0))), (q14, .inr (4, [.ref u16_0, .ref u16_1, .ref u16_2, .int 0])), (u16_0, .inl (u16_3, 60, .inr (.inl (fun _ => 0)))), (u16_1, .inl (u16_4, 60, .inl (fun _ => 0))), (u16_2, .inl (u16_5, 60, .inl (fun _ => 0)))]) hP hD rfl
  refine lv_aload_n hx hb dX0_init_66 rfl (lv_at hl 0 rfl) ?_
  refine va_new (ci := 10) (fs := [.null, .null, .null, .null, .null, .null, .int 0, .int 0, .int 0, .int 0, .int 0, .long 0]) (C := RX10) (T := TX10) (N := 12) hx hb hG inGX10 tyX10 tyX10_ok hown (hG _ wd_222) (hG _ wd_223) (hG _ wd_11) hK hP hD hS hA rfl (fun j hj => by rcases (show j = 0 ∨ j = 1 ∨ j = 2 ∨ j = 3 ∨ j = 4 ∨ j = 5 ∨ j = 6 ∨ j = 7 ∨ j = 8 ∨ j = 9 ∨ j = 10 ∨ j = 11 by omega) with rfl | rfl | rfl | rfl | rfl | rfl | rfl | rfl | rfl | rfl | rfl | rfl <;> rfl) (by decide) (by decide) dX0_init_67 (fun q17 H hP hD hS => ?_)
  obtain ⟨hP, hD⟩ := nv_eq (ws' := [(h0, .inr (0, [.null, .ref q1, .ref q4, .ref q7, .ref q9, .ref q11, .ref q14, .int x0, .int x1, .int x2, .int x3, .int x4, .int x5, .int x6, .int x7, .int x8, .int x9])), (q1, .inr (6, [.int 0, .int 0, .int 0, .int 0, .int 0])), (q4, .inr (6, [.int 0, .int 0, .int 0, .int 0, .int 0])), (q7, .inl (ny8, 2600, .inl (fun _ => 0))), (q9, .inl (ny10, 2600, .inl (fun _ => 0))), (q11, .inr (4, [.ref u13_0, .ref u13_1, .ref u13_2, .int 0])), (u13_0, .inl (u13_3, 60, .inr (.inl (fun _ => 0)))), (u13_1, .inl (u13_4, 60, .inl (fun _ => 0))), (u13_2, .inl (u13_5, 60, .inl (fun _ => 0))), (q14, .inr (4, [.ref u16_0, .ref u16_1, .ref u16_2, .int 0])), (u16_0, .inl (u16_3, 60, .inr (.inl (fun _ => 0)))), (u16_1, .inl (u16_4, 60, .inl (fun _ => 0))), (u16_2, .inl (u16_5, 60, .inl (fun _ => 0))), (q17, .inr (10, [.null, .null, .null, .null, .null, .null, .int 0, .int 0, .int 0, .int 0, .int 0, .long 0]))]) hP hD rfl
  refine W.widen (k := 13) (n := 5590) (by decide) (by decide) ?_
  refine lv_dup hx hb dX0_init_70 rfl ?_
  refine lv_aload_n hx hb dX0_init_71 rfl (lv_at hl 1 rfl) ?_
  obtain ⟨hPc, hDc, hFc⟩ := nv_sub3 (wc := [(q17, .inr (10, [.null, .null, .null, .null, .null, .null, .int 0, .int 0, .int 0, .int 0, .int 0, .long 0]))]) hP hD hS hA [13] (by decide) rfl
  have hKc := hK.sub (tys' := []) [] rfl
  refine va_callv (va_runI (As := [.ref h1]) (rest := [.ref q17, .ref h0]) ⟨hx, hb, hml, hown, hG⟩ (cX10_init_1 l dC dI adK adV q17 h1 H.size 0 0 0 0 0 0 (iv_w (by decide : iv 0 0 0) (by decide) (by decide)) (iv_w (by decide : iv 0 0 0) (by decide) (by decide)) (iv_w (by decide : iv 0 0 0) (by decide) (by decide))) (cwI 1 hG (gC wd_226) rfl rfl rfl (hG _ wd_11) (hG _ wd_224) (hG _ wd_225) rfl (by decide +kernel) ⟨Nat.le_of_ble_eq_true rfl, Nat.le_of_ble_eq_true rfl⟩) ⟨fun a U g mk q => by obtain ⟨q0, q1, qP, qK, qD, qE⟩ := q; exact ⟨q0, q1, qP, va_K.moved (u := U) (U := U.calling g mk a) (Vm.Alike.refl U.vm) qK, qD, qE.same rfl⟩, fun U hU hW => ⟨rfl, by rw [hU], by rw [hU]; exact hPc, va_K.moved hW.alike hKc, hDc.weaken (fun _ _ _ _ => trivial), by rw [hU]; exact ((hE.kept hS.2.1).narrow hFc).warm hW⟩⟩ rfl rfl hl.1 rfl (lv_room (Nat.le_of_ble_eq_true rfl)) dX0_init_72 ⟨by decide, by decide⟩) hS (fun q _ h => hFc q h) hFc (fun u19 t H1 locs ht hvm hw hB hz1 hk1 hS => ?_)
  obtain ⟨u19_0, u19_1, u19_2, u19_3, u19_4, u19_5, u19_6, u19_7, u19_8, u19_9, u19_10⟩ := u19
  obtain ⟨hP1, hK1, hD1⟩ := hB
  rw [ht] at hP1
  have hK1 := va_K.moved hvm.symm hK1
  obtain ⟨hP, hD⟩ := nv_join (wf := [(h0, .inr (0, [.null, .ref q1, .ref q4, .ref q7, .ref q9, .ref q11, .ref q14, .int x0, .int x1, .int x2, .int x3, .int x4, .int x5, .int x6, .int x7, .int x8, .int x9])), (q1, .inr (6, [.int 0, .int 0, .int 0, .int 0, .int 0])), (q4, .inr (6, [.int 0, .int 0, .int 0, .int 0, .int 0])), (q7, .inl (ny8, 2600, .inl (fun _ => 0))), (q9, .inl (ny10, 2600, .inl (fun _ => 0))), (q11, .inr (4, [.ref u13_0, .ref u13_1, .ref u13_2, .int 0])), (u13_0, .inl (u13_3, 60, .inr (.inl (fun _ => 0)))), (u13_1, .inl (u13_4, 60, .inl (fun _ => 0))), (u13_2, .inl (u13_5, 60, .inl (fun _ => 0))), (q14, .inr (4, [.ref u16_0, .ref u16_1, .ref u16_2, .int 0])), (u16_0, .inl (u16_3, 60, .inr (.inl (fun _ => 0)))), (u16_1, .inl (u16_4, 60, .inl (fun _ => 0))), (u16_2, .inl (u16_5, 60, .inl (fun _ => 0))), (q17, .inr (10, [.ref u19_0, .ref u19_1, .ref u19_2, .ref u19_3, .ref u19_4, .ref h1, .int 0, .int 0, .int 0, .int 0, .int 0, .long 0])), (u19_0, .inl (u19_5, 2501, .inl (fun _ => 0))), (u19_1, .inl (u19_6, 2501, .inl (fun _ => 0))), (u19_2, .inl (u19_7, 2501, .inl (fun _ => 0))), (u19_3, .inl (u19_8, 2501, .inr (.inl (fun _ => 0)))), (u19_4, .inl (u19_9, 35, .inr (.inl u19_10)))]) hP hD [13] [0, 1, 2, 3, 4, 5, 6, 7, 8, 9, 10, 11, 12] rfl rfl (by decide) (by decide) hk1 hFc hP1 hD1 rfl
  have hK := (hK.sub (tys' := [(ny8, .int), (ny10, .int), (u13_3, .long), (u13_4, .int), (u13_5, .int), (u16_3, .long), (u16_4, .int), (u16_5, .int)]) [0, 1, 2, 3, 4, 5, 6, 7] rfl).app hK1
  generalize H1 = H at hP hS ⊢
  have hK : va_K (dC, dI) vwCl [(ny8, .int), (ny10, .int), (u13_3, .long), (u13_4, .int), (u13_5, .int), (u16_3, .long), (u16_4, .int), (u16_5, .int), (u19_5, .int), (u19_6, .int), (u19_7, .int), (u19_8, .long), (u19_9, .long)] s := hK
  refine W.widen (k := 18) (n := 15629) (by decide) (by decide) ?_
  refine va_putF (D := (dC, dI)) (ci := 0) (v := .ref q17) (ty := .object "NapMachine$Tokens") (C := RX0) (T := TX0) (N := 17) hx hb hG inGX0 tyX0 tyX0_ok nmX0 hown hK hP hD hS 0 rfl rfl 0 (by decide) (hG _ wd_321) (fun _ h9 => h9) rfl hin rfl (by decide +kernel) rfl rfl (Nat.le_of_ble_eq_true rfl) dX0_init_75 (fun H locs hP hD hS => ?_)
  obtain ⟨hP, hD⟩ := nv_eq (ws' := [(h0, .inr (0, [.ref q17, .ref q1, .ref q4, .ref q7, .ref q9, .ref q11, .ref q14, .int x0, .int x1, .int x2, .int x3, .int x4, .int x5, .int x6, .int x7, .int x8, .int x9])), (q1, .inr (6, [.int 0, .int 0, .int 0, .int 0, .int 0])), (q4, .inr (6, [.int 0, .int 0, .int 0, .int 0, .int 0])), (q7, .inl (ny8, 2600, .inl (fun _ => 0))), (q9, .inl (ny10, 2600, .inl (fun _ => 0))), (q11, .inr (4, [.ref u13_0, .ref u13_1, .ref u13_2, .int 0])), (u13_0, .inl (u13_3, 60, .inr (.inl (fun _ => 0)))), (u13_1, .inl (u13_4, 60, .inl (fun _ => 0))), (u13_2, .inl (u13_5, 60, .inl (fun _ => 0))), (q14, .inr (4, [.ref u16_0, .ref u16_1, .ref u16_2, .int 0])), (u16_0, .inl (u16_3, 60, .inr (.inl (fun _ => 0)))), (u16_1, .inl (u16_4, 60, .inl (fun _ => 0))), (u16_2, .inl (u16_5, 60, .inl (fun _ => 0))), (q17, .inr (10, [.ref u19_0, .ref u19_1, .ref u19_2, .ref u19_3, .ref u19_4, .ref h1, .int 0, .int 0, .int 0, .int 0, .int 0, .long 0])), (u19_0, .inl (u19_5, 2501, .inl (fun _ => 0))), (u19_1, .inl (u19_6, 2501, .inl (fun _ => 0))), (u19_2, .inl (u19_7, 2501, .inl (fun _ => 0))), (u19_3, .inl (u19_8, 2501, .inr (.inl (fun _ => 0)))), (u19_4, .inl (u19_9, 35, .inr (.inl u19_10)))]) hP hD rfl
  rw [hQ]
  obtain ⟨hP9, hD9⟩ := nv_sub2 (wc := [(h0, .inr (0, [.ref q17, .ref q1, .ref q4, .ref q7, .ref q9, .ref q11, .ref q14, .int x0, .int x1, .int x2, .int x3, .int x4, .int x5, .int x6, .int x7, .int x8, .int x9])), (q1, .inr (6, [.int 0, .int 0, .int 0, .int 0, .int 0])), (q4, .inr (6, [.int 0, .int 0, .int 0, .int 0, .int 0])), (q7, .inl (ny8, 2600, .inl (fun _ => 0))), (q9, .inl (ny10, 2600, .inl (fun _ => 0))), (q11, .inr (4, [.ref u13_0, .ref u13_1, .ref u13_2, .int 0])), (u13_0, .inl (u13_3, 60, .inr (.inl (fun _ => 0)))), (u13_1, .inl (u13_4, 60, .inl (fun _ => 0))), (u13_2, .inl (u13_5, 60, .inl (fun _ => 0))), (q14, .inr (4, [.ref u16_0, .ref u16_1, .ref u16_2, .int 0])), (u16_0, .inl (u16_3, 60, .inr (.inl (fun _ => 0)))), (u16_1, .inl (u16_4, 60, .inl (fun _ => 0))), (u16_2, .inl (u16_5, 60, .inl (fun _ => 0))), (q17, .inr (10, [.ref u19_0, .ref u19_1, .ref u19_2, .ref u19_3, .ref u19_4, .ref h1, .int 0, .int 0, .int 0, .int 0, .int 0, .long 0])), (u19_0, .inl (u19_5, 2501, .inl (fun _ => 0))), (u19_1, .inl (u19_6, 2501, .inl (fun _ => 0))), (u19_2, .inl (u19_7, 2501, .inl (fun _ => 0))), (u19_3, .inl (u19_8, 2501, .inr (.inl (fun _ => 0)))), (u19_4, .inl (u19_9, 35, .inr (.inl u19_10)))]) hP hD [0, 1, 2, 3, 4, 5, 6, 7, 8, 9, 10, 11, 12, 13, 14, 15, 16, 17, 18] (by decide) rfl
  have hK9 := hK.sub (tys' := [(ny8, .int), (ny10, .int), (u13_3, .long), (u13_4, .int), (u13_5, .int), (u16_3, .long), (u16_4, .int), (u16_5, .int), (u19_5, .int), (u19_6, .int), (u19_7, .int), (u19_8, .long), (u19_9, .long)]) [0, 1, 2, 3, 4, 5, 6, 7, 8, 9, 10, 11, 12] rfl
  refine W.widen (k := 18) (n := 15629) (by decide) (by decide) ?_
  exact W.vret hx hb hr (fun t ht hW => ⟨⟨(q1, q4, q7, q9, q11, u13_0, u13_1, u13_2, q14, u16_0, u16_1, u16_2, q17, u19_0, u19_1, u19_2, u19_3, u19_4, ny8, ny10, u13_3, u13_4, u13_5, u16_3, u16_4, u16_5, u19_5, u19_6, u19_7, u19_8, u19_9, u19_10), rfl, trivial, by rw [ht]; exact hP9, va_K.moved hW.alike hK9, hD9⟩, hS.F ht⟩) hS.2.2 dX0_init_78
set_option maxHeartbeats 100000000 in
set_option maxRecDepth 100000 in
theorem cX8_init_1 (l : Launch) (dC : Nat → ClassId) (dI : Nat → Nat → Nat) (h0 h1 : Nat) (sz : Nat) (x0 x1 x2 : Int32) (ix0 : iv x0 0 64) : Met l yX8_init (Cond.code yX8_init cX8_init 2 none :: lw_G) ({ frames := 1, cells := 1, slots := 64, locals := 12 }) (va_Pc [.ref h0, .ref h1] (fun U => U.heap.size = sz ∧ va_P (dC, dI) vwCl [(h0, .inr (8, [.null, .null, .int x0, .int x1, .int x2]))] U.heap ∧ va_K (dC, dI) vwCl [] U ∧ va_D (fun _ => True) [(h0, .inr (8, [.null, .null, .int x0, .int x1, .int x2]))])) (va_Qv (fun (u : Nat × ClassId) => True) (fun (u : Nat × ClassId) (t : State) => va_P (dC, dI) vwCl [(h0, .inr (8, [.ref u.1, .ref h1, .int x0, .int x1, .int x2])), (u.1, .inl (u.2, 64, .inl (fun _ => 0)))] t.heap ∧ va_K (dC, dI) vwCl [(u.2, .int)] t ∧ va_D (va_A [(h0, .inr (8, [.null, .null, .int x0, .int x1, .int x2]))] sz) [(h0, .inr (8, [.ref u.1, .ref h1, .int x0, .int x1, .int x2])), (u.1, .inl (u.2, 64, .inl (fun _ => 0)))]) (va_A [(h0, .inr (8, [.null, .null, .int x0, .int x1, .int x2]))] sz)) 1 64 (va_A [(h0, .inr (8, [.null, .null, .int x0, .int x1, .int x2]))] sz) := by
  refine Met.ofW (cc := cX8_init) (maxL := 2) (ret := none) (by decide) rfl ?_
  intro p e s m args below meth c s₁ B hml hv
  obtain ⟨rfl, hsz, hP, hK, hD0⟩ := hv
  have hx := B.exec
  have hb := B.bytes
  have hr := B.returns
  have hts0 := atoms_spec (ws := Cond.code yX8_init cX8_init 2 none :: lw_G) B.pre
  have hG : ∀ w ∈ lw_G, w.before _ s = true := fun w h => hts0 w (List.mem_cons_of_mem _ h)
  have hown : s.vm.findClass RX8 = some m.cls := findClass_of_methodNamed B.named
  have hlocks := B.notSynchronized
  have hin : meth.name = "<init>" := (name_of_methodNamed B.named B.method).1
  subst hsz
  have hD := hD0.self (sz := s.heap.size)
  generalize hAe : va_A [(h0, .inr (8, [.null, .null, .int x0, .int x1, .int x2]))] s.heap.size = A at hD ⊢
  have hA : ∀ q : Nat, s.heap.size ≤ q → A q := fun q h => by rw [← hAe]; exact Or.inr h
  have hS : va_S A s.heap s.heap [] := va_S.rf
  have hP : va_P (dC, dI) vwCl [(h0, .inr (8, [.null, .null, .int x0, .int x1, .int x2]))] s.heap := hP
  have hl := lv_entry ([.ref h0, .ref h1]) (n := 2) (Nat.le_of_ble_eq_true rfl)
  rw [lg_entry_eq]
  generalize (lg_sl ([.ref h0, .ref h1]) ++ List.replicate (2 - (lg_sl ([.ref h0, .ref h1])).length) Slot.unset).toArray = ls at hl ⊢
  have hl : lv_has ls 2 [(0, .ref h0), (1, .ref h1)] := hl
  generalize ([.ref h0, .ref h1] : List Value).toArray = ar at hG ⊢
  refine wq (fun Q hQ => ?_)
  refine lv_aload_n hx hb dX8_init_0 rfl (lv_at hl 0 rfl) ?_
  refine W.objInit hx hb hown (hG _ wd_378) (hG _ wd_32) (hG _ wd_33) rfl (by rw [hml]; exact hl.1) rfl dX8_init_1 (Nat.le_of_ble_eq_true rfl) (Nat.le_of_ble_eq_true rfl) ?_
  refine W.eq (g2 := F0 m 4 ls []) rfl ?_
  refine lv_aload_n hx hb dX8_init_4 rfl (lv_at hl 0 rfl) ?_
  refine lv_bipush (v := 64) hx hb dX8_init_5 (by decide) ?_
  refine va_newa (atype := .int) (ty := .int) (a0 := (64, (.inl (fun _ => 0)))) hx hb (hG _ wd_63) rfl hK hP hD hS hA (fun _ => rfl) (by decide) (by decide) (by decide) (by decide) (by decide) dX8_init_7 (fun q1 ny2 H hK hP hD hS => ?_)
  obtain ⟨hP, hD⟩ := nv_eq (ws' := [(h0, .inr (8, [.null, .null, .int x0, .int x1, .int x2])), (q1, .inl (ny2, 64, .inl (fun _ => 0)))]) hP hD rfl
  have hK : va_K (dC, dI) vwCl [(ny2, .int)] s := hK
  refine W.widen (k := 1) (n := 64) (by decide) (by decide) ?_
  refine va_putF (D := (dC, dI)) (ci := 8) (v := .ref q1) (ty := .array .int) (C := RX8) (T := TX8) (N := 5) hx hb hG inGX8 tyX8 tyX8_ok nmX8 hown hK hP hD hS 0 rfl rfl 0 (by decide) (hG _ wd_379) (fun _ h9 => h9) rfl hin rfl (by decide +kernel) rfl rfl (Nat.le_of_ble_eq_true rfl) dX8_init_9 (fun H locs hP hD hS => ?_)
  obtain ⟨hP, hD⟩ := nv_eq (ws' := [(h0, .inr (8, [.ref q1, .null, .int x0, .int x1, .int x2])), (q1, .inl (ny2, 64, .inl (fun _ => 0)))]) hP hD rfl
  refine lv_aload_n hx hb dX8_init_12 rfl (lv_at hl 0 rfl) ?_
  refine lv_aload_n hx hb dX8_init_13 rfl (lv_at hl 1 rfl) ?_
  refine va_putF (D := (dC, dI)) (ci := 8) (v := .ref h1) (ty := .object "NapMachine$Bus") (C := RX8) (T := TX8) (N := 5) hx hb hG inGX8 tyX8 tyX8_ok nmX8 hown hK hP hD hS 0 rfl rfl 1 (by decide) (hG _ wd_380) (fun _ h9 => h9) rfl hin rfl (by decide +kernel) rfl rfl (Nat.le_of_ble_eq_true rfl) dX8_init_14 (fun H locs hP hD hS => ?_)
  obtain ⟨hP, hD⟩ := nv_eq (ws' := [(h0, .inr (8, [.ref q1, .ref h1, .int x0, .int x1, .int x2])), (q1, .inl (ny2, 64, .inl (fun _ => 0)))]) hP hD rfl
  rw [hQ]
  obtain ⟨hP9, hD9⟩ := nv_sub2 (wc := [(h0, .inr (8, [.ref q1, .ref h1, .int x0, .int x1, .int x2])), (q1, .inl (ny2, 64, .inl (fun _ => 0)))]) hP hD [0, 1] (by decide) rfl
  have hK9 := hK.sub (tys' := [(ny2, .int)]) [0] rfl
  refine W.widen (k := 1) (n := 64) (by decide) (by decide) ?_
  exact W.vret hx hb hr (fun t ht hW => ⟨⟨(q1, ny2), rfl, trivial, by rw [ht]; exact hP9, va_K.moved hW.alike hK9, hD9⟩, hS.F ht⟩) hS.2.2 dX8_init_17
set_option maxHeartbeats 100000000 in
set_option maxRecDepth 100000 in
theorem cX11_init_1 (l : Launch) (dC : Nat → ClassId) (dI : Nat → Nat → Nat) (adK adV : Nat → Nat) (h0 : Nat) (sz : Nat) (x0 x1 : Int32) (ix0 : iv x0 0 2600) : Met l yX11_init (Cond.code yX11_init cX11_init 1 none :: lw_G) ({ frames := 8, cells := 34, slots := 51217, locals := 173 }) (va_Pc [.ref h0] (fun U => U.heap.size = sz ∧ va_P (dC, dI) vwCl [(h0, .inr (11, [.null, .null, .null, .null, .null, .int x0, .int x1]))] U.heap ∧ va_K (dC, dI) vwCl [] U ∧ va_D (fun _ => True) [(h0, .inr (11, [.null, .null, .null, .null, .null, .int x0, .int x1]))] ∧ ev adK adV (va_A [(h0, .inr (11, [.null, .null, .null, .null, .null, .int x0, .int x1]))] sz) U U.heap)) (va_Qv (fun (u : Nat × Nat × Nat × Nat × Nat × Nat × Nat × Nat × Nat × Nat × Nat × Nat × Nat × Nat × Nat × Nat × Nat × Nat × Nat × Nat × Nat × Nat × Nat × Nat × Nat × Nat × Nat × Nat × Nat × Nat × Nat × Nat × Nat × Nat × ClassId × ClassId × ClassId × ClassId × ClassId × ClassId × ClassId × ClassId × ClassId × ClassId × ClassId × ClassId × ClassId × ClassId × ClassId × ClassId × ClassId × ClassId × ClassId × ClassId × (Nat → Int64) × ClassId) => True) (fun (u : Nat × Nat × Nat × Nat × Nat × Nat × Nat × Nat × Nat × Nat × Nat × Nat × Nat × Nat × Nat × Nat × Nat × Nat × Nat × Nat × Nat × Nat × Nat × Nat × Nat × Nat × Nat × Nat × Nat × Nat × Nat × Nat × Nat × Nat × ClassId × ClassId × ClassId × ClassId × ClassId × ClassId × ClassId × ClassId × ClassId × ClassId × ClassId × ClassId × ClassId × ClassId × ClassId × ClassId × ClassId × ClassId × ClassId × ClassId × (Nat → Int64) × ClassId) (t : State) => va_P (dC, dI) vwCl [(h0, .inr (11, [.ref u.1, .ref u.2.1, .ref u.2.2.2.2.2.2.2.2.1, .ref u.2.2.2.2.2.2.2.2.2.2.2.2.2.1, .ref u.2.2.2.2.2.2.2.2.2.2.2.2.2.2.2.2.2.2.2.2.2.2.2.2.2.2.2.2.2.2.2.2.1, .int x0, .int x1])), (u.1, .inl (u.2.2.2.2.2.2.2.2.2.2.2.2.2.2.2.2.2.2.2.2.2.2.2.2.2.2.2.2.2.2.2.2.2.2.1, 2600, .inl (fun _ => 0))), (u.2.1, .inr (1, [.ref u.2.2.1, .ref u.2.2.2.1, .ref u.2.2.2.2.1, .ref u.2.2.2.2.2.1])), (u.2.2.1, .inl (u.2.2.2.2.2.2.2.2.2.2.2.2.2.2.2.2.2.2.2.2.2.2.2.2.2.2.2.2.2.2.2.2.2.2.2.1, 32768, .inl (fun _ => 0))), (u.2.2.2.1, .inr (7, [.int 0, .int 0, .int 0, .int 0, .int 0])), (u.2.2.2.2.1, .inr (5, [.int 304, .int 0, .int 0, .int 0, .int 0, .int 0])), (u.2.2.2.2.2.1, .inr (9, [.ref u.2.2.2.2.2.2.1, .ref u.2.2.2.2.2.2.2.1, .int 0, .int 0, .int 0, .int 0])), (u.2.2.2.2.2.2.1, .inl (u.2.2.2.2.2.2.2.2.2.2.2.2.2.2.2.2.2.2.2.2.2.2.2.2.2.2.2.2.2.2.2.2.2.2.2.2.1, 3, .inl (fun _ => 0))), (u.2.2.2.2.2.2.2.1, .inl (u.2.2.2.2.2.2.2.2.2.2.2.2.2.2.2.2.2.2.2.2.2.2.2.2.2.2.2.2.2.2.2.2.2.2.2.2.2.1, 3, .inl (fun _ => 0))), (u.2.2.2.2.2.2.2.2.1, .inr (2, [.ref u.2.2.2.2.2.2.2.2.2.1, .ref u.2.2.2.2.2.2.2.2.2.2.1, .ref u.2.1, .int 0, .int 0, .int 0, .int 0, .int 0])), (u.2.2.2.2.2.2.2.2.2.1, .inl (u.2.2.2.2.2.2.2.2.2.2.2.2.2.2.2.2.2.2.2.2.2.2.2.2.2.2.2.2.2.2.2.2.2.2.2.2.2.2.1, 16, .inl (fun _ => 0))), (u.2.2.2.2.2.2.2.2.2.2.1, .inr (3, [.ref u.2.2.2.2.2.2.2.2.2.2.2.1, .ref u.2.2.2.2.2.2.2.2.2.2.2.2.1, .int 0])), (u.2.2.2.2.2.2.2.2.2.2.2.1, .inl (u.2.2.2.2.2.2.2.2.2.2.2.2.2.2.2.2.2.2.2.2.2.2.2.2.2.2.2.2.2.2.2.2.2.2.2.2.2.2.2.1, 40, .inl (fun _ => 0))), (u.2.2.2.2.2.2.2.2.2.2.2.2.1, .inl (u.2.2.2.2.2.2.2.2.2.2.2.2.2.2.2.2.2.2.2.2.2.2.2.2.2.2.2.2.2.2.2.2.2.2.2.2.2.2.2.2.1, 40, .inl (fun _ => 0))), (u.2.2.2.2.2.2.2.2.2.2.2.2.2.1, .inr (0, [.ref u.2.2.2.2.2.2.2.2.2.2.2.2.2.2.2.2.2.2.2.2.2.2.2.2.2.2.1, .ref u.2.2.2.2.2.2.2.2.2.2.2.2.2.2.1, .ref u.2.2.2.2.2.2.2.2.2.2.2.2.2.2.2.1, .ref u.2.2.2.2.2.2.2.2.2.2.2.2.2.2.2.2.1, .ref u.2.2.2.2.2.2.2.2.2.2.2.2.2.2.2.2.2.1, .ref u.2.2.2.2.2.2.2.2.2.2.2.2.2.2.2.2.2.2.1, .ref u.2.2.2.2.2.2.2.2.2.2.2.2.2.2.2.2.2.2.2.2.2.2.1, .int 0, .int 0, .int 0, .int 0, .int 0, .int 0, .int 0, .int 0, .int 0, .int 0])), (u.2.2.2.2.2.2.2.2.2.2.2.2.2.2.1, .inr (6, [.int 0, .int 0, .int 0, .int 0, .int 0])), (u.2.2.2.2.2.2.2.2.2.2.2.2.2.2.2.1, .inr (6, [.int 0, .int 0, .int 0, .int 0, .int 0])), (u.2.2.2.2.2.2.2.2.2.2.2.2.2.2.2.2.1, .inl (u.2.2.2.2.2.2.2.2.2.2.2.2.2.2.2.2.2.2.2.2.2.2.2.2.2.2.2.2.2.2.2.2.2.2.2.2.2.2.2.2.2.1, 2600, .inl (fun _ => 0))), (u.2.2.2.2.2.2.2.2.2.2.2.2.2.2.2.2.2.1, .inl (u.2.2.2.2.2.2.2.2.2.2.2.2.2.2.2.2.2.2.2.2.2.2.2.2.2.2.2.2.2.2.2.2.2.2.2.2.2.2.2.2.2.2.1, 2600, .inl (fun _ => 0))), (u.2.2.2.2.2.2.2.2.2.2.2.2.2.2.2.2.2.2.1, .inr (4, [.ref u.2.2.2.2.2.2.2.2.2.2.2.2.2.2.2.2.2.2.2.1, .ref u.2.2.2.2.2.2.2.2.2.2.2.2.2.2.2.2.2.2.2.2.1, .ref u.2.2.2.2.2.2.2.2.2.2.2.2.2.2.2.2.2.2.2.2.2.1, .int 0])), (u.2.2.2.2.2.2.2.2.2.2.2.2.2.2.2.2.2.2.2.1, .inl (u.2.2.2.2.2.2.2.2.2.2.2.2.2.2.2.2.2.2.2.2.2.2.2.2.2.2.2.2.2.2.2.2.2.2.2.2.2.2.2.2.2.2.2.1, 60, .inr (.inl (fun _ => 0)))), (u.2.2.2.2.2.2.2.2.2.2.2.2.2.2.2.2.2.2.2.2.1, .inl (u.2.2.2.2.2.2.2.2.2.2.2.2.2.2.2.2.2.2.2.2.2.2.2.2.2.2.2.2.2.2.2.2.2.2.2.2.2.2.2.2.2.2.2.2.1, 60, .inl (fun _ => 0))), (u.2.2.2.2.2.2.2.2.2.2.2.2.2.2.2.2.2.2.2.2.2.1, .inl (u.2.2.2.2.2.2.2.2.2.2.2.2.2.2.2.2.2.2.2.2.2.2.2.2.2.2.2.2.2.2.2.2.2.2.2.2.2.2.2.2.2.2.2.2.2.1, 60, .inl (fun _ => 0))), (u.2.2.2.2.2.2.2.2.2.2.2.2.2.2.2.2.2.2.2.2.2.2.1, .inr (4, [.ref u.2.2.2.2.2.2.2.2.2.2.2.2.2.2.2.2.2.2.2.2.2.2.2.1, .ref u.2.2.2.2.2.2.2.2.2.2.2.2.2.2.2.2.2.2.2.2.2.2.2.2.1, .ref u.2.2.2.2.2.2.2.2.2.2.2.2.2.2.2.2.2.2.2.2.2.2.2.2.2.1, .int 0])), (u.2.2.2.2.2.2.2.2.2.2.2.2.2.2.2.2.2.2.2.2.2.2.2.1, .inl (u.2.2.2.2.2.2.2.2.2.2.2.2.2.2.2.2.2.2.2.2.2.2.2.2.2.2.2.2.2.2.2.2.2.2.2.2.2.2.2.2.2.2.2.2.2.2.1, 60, .inr (.inl (fun _ => 0)))), (u.2.2.2.2.2.2.2.2.2.2.2.2.2.2.2.2.2.2.2.2.2.2.2.2.1, .inl (u.2.2.2.2.2.2.2.2.2.2.2.2.2.2.2.2.2.2.2.2.2.2.2.2.2.2.2.2.2.2.2.2.2.2.2.2.2.2.2.2.2.2.2.2.2.2.2.1, 60, .inl (fun _ => 0))), (u.2.2.2.2.2.2.2.2.2.2.2.2.2.2.2.2.2.2.2.2.2.2.2.2.2.1, .inl (u.2.2.2.2.2.2.2.2.2.2.2.2.2.2.2.2.2.2.2.2.2.2.2.2.2.2.2.2.2.2.2.2.2.2.2.2.2.2.2.2.2.2.2.2.2.2.2.2.1, 60, .inl (fun _ => 0))), (u.2.2.2.2.2.2.2.2.2.2.2.2.2.2.2.2.2.2.2.2.2.2.2.2.2.2.1, .inr (10, [.ref u.2.2.2.2.2.2.2.2.2.2.2.2.2.2.2.2.2.2.2.2.2.2.2.2.2.2.2.1, .ref u.2.2.2.2.2.2.2.2.2.2.2.2.2.2.2.2.2.2.2.2.2.2.2.2.2.2.2.2.1, .ref u.2.2.2.2.2.2.2.2.2.2.2.2.2.2.2.2.2.2.2.2.2.2.2.2.2.2.2.2.2.1, .ref u.2.2.2.2.2.2.2.2.2.2.2.2.2.2.2.2.2.2.2.2.2.2.2.2.2.2.2.2.2.2.1, .ref u.2.2.2.2.2.2.2.2.2.2.2.2.2.2.2.2.2.2.2.2.2.2.2.2.2.2.2.2.2.2.2.1, .ref u.1, .int 0, .int 0, .int 0, .int 0, .int 0, .long 0])), (u.2.2.2.2.2.2.2.2.2.2.2.2.2.2.2.2.2.2.2.2.2.2.2.2.2.2.2.1, .inl (u.2.2.2.2.2.2.2.2.2.2.2.2.2.2.2.2.2.2.2.2.2.2.2.2.2.2.2.2.2.2.2.2.2.2.2.2.2.2.2.2.2.2.2.2.2.2.2.2.2.1, 2501, .inl (fun _ => 0))), (u.2.2.2.2.2.2.2.2.2.2.2.2.2.2.2.2.2.2.2.2.2.2.2.2.2.2.2.2.1, .inl (u.2.2.2.2.2.2.2.2.2.2.2.2.2.2.2.2.2.2.2.2.2.2.2.2.2.2.2.2.2.2.2.2.2.2.2.2.2.2.2.2.2.2.2.2.2.2.2.2.2.2.1, 2501, .inl (fun _ => 0))), (u.2.2.2.2.2.2.2.2.2.2.2.2.2.2.2.2.2.2.2.2.2.2.2.2.2.2.2.2.2.1, .inl (u.2.2.2.2.2.2.2.2.2.2.2.2.2.2.2.2.2.2.2.2.2.2.2.2.2.2.2.2.2.2.2.2.2.2.2.2.2.2.2.2.2.2.2.2.2.2.2.2.2.2.2.1, 2501, .inl (fun _ => 0))), (u.2.2.2.2.2.2.2.2.2.2.2.2.2.2.2.2.2.2.2.2.2.2.2.2.2.2.2.2.2.2.1, .inl (u.2.2.2.2.2.2.2.2.2.2.2.2.2.2.2.2.2.2.2.2.2.2.2.2.2.2.2.2.2.2.2.2.2.2.2.2.2.2.2.2.2.2.2.2.2.2.2.2.2.2.2.2.1, 2501, .inr (.inl (fun _ => 0)))), (u.2.2.2.2.2.2.2.2.2.2.2.2.2.2.2.2.2.2.2.2.2.2.2.2.2.2.2.2.2.2.2.1, .inl (u.2.2.2.2.2.2.2.2.2.2.2.2.2.2.2.2.2.2.2.2.2.2.2.2.2.2.2.2.2.2.2.2.2.2.2.2.2.2.2.2.2.2.2.2.2.2.2.2.2.2.2.2.2.1, 35, .inr (.inl u.2.2.2.2.2.2.2.2.2.2.2.2.2.2.2.2.2.2.2.2.2.2.2.2.2.2.2.2.2.2.2.2.2.2.2.2.2.2.2.2.2.2.2.2.2.2.2.2.2.2.2.2.2.2.1))), (u.2.2.2.2.2.2.2.2.2.2.2.2.2.2.2.2.2.2.2.2.2.2.2.2.2.2.2.2.2.2.2.2.1, .inr (8, [.ref u.2.2.2.2.2.2.2.2.2.2.2.2.2.2.2.2.2.2.2.2.2.2.2.2.2.2.2.2.2.2.2.2.2.1, .ref u.2.1, .int 0, .int 0, .int 0])), (u.2.2.2.2.2.2.2.2.2.2.2.2.2.2.2.2.2.2.2.2.2.2.2.2.2.2.2.2.2.2.2.2.2.1, .inl (u.2.2.2.2.2.2.2.2.2.2.2.2.2.2.2.2.2.2.2.2.2.2.2.2.2.2.2.2.2.2.2.2.2.2.2.2.2.2.2.2.2.2.2.2.2.2.2.2.2.2.2.2.2.2.2, 64, .inl (fun _ => 0)))] t.heap ∧ va_K (dC, dI) vwCl [(u.2.2.2.2.2.2.2.2.2.2.2.2.2.2.2.2.2.2.2.2.2.2.2.2.2.2.2.2.2.2.2.2.2.2.1, .int), (u.2.2.2.2.2.2.2.2.2.2.2.2.2.2.2.2.2.2.2.2.2.2.2.2.2.2.2.2.2.2.2.2.2.2.2.1, .int), (u.2.2.2.2.2.2.2.2.2.2.2.2.2.2.2.2.2.2.2.2.2.2.2.2.2.2.2.2.2.2.2.2.2.2.2.2.1, .int), (u.2.2.2.2.2.2.2.2.2.2.2.2.2.2.2.2.2.2.2.2.2.2.2.2.2.2.2.2.2.2.2.2.2.2.2.2.2.1, .int), (u.2.2.2.2.2.2.2.2.2.2.2.2.2.2.2.2.2.2.2.2.2.2.2.2.2.2.2.2.2.2.2.2.2.2.2.2.2.2.1, .int), (u.2.2.2.2.2.2.2.2.2.2.2.2.2.2.2.2.2.2.2.2.2.2.2.2.2.2.2.2.2.2.2.2.2.2.2.2.2.2.2.1, .int), (u.2.2.2.2.2.2.2.2.2.2.2.2.2.2.2.2.2.2.2.2.2.2.2.2.2.2.2.2.2.2.2.2.2.2.2.2.2.2.2.2.1, .int), (u.2.2.2.2.2.2.2.2.2.2.2.2.2.2.2.2.2.2.2.2.2.2.2.2.2.2.2.2.2.2.2.2.2.2.2.2.2.2.2.2.2.1, .int), (u.2.2.2.2.2.2.2.2.2.2.2.2.2.2.2.2.2.2.2.2.2.2.2.2.2.2.2.2.2.2.2.2.2.2.2.2.2.2.2.2.2.2.1, .int), (u.2.2.2.2.2.2.2.2.2.2.2.2.2.2.2.2.2.2.2.2.2.2.2.2.2.2.2.2.2.2.2.2.2.2.2.2.2.2.2.2.2.2.2.1, .long), (u.2.2.2.2.2.2.2.2.2.2.2.2.2.2.2.2.2.2.2.2.2.2.2.2.2.2.2.2.2.2.2.2.2.2.2.2.2.2.2.2.2.2.2.2.1, .int), (u.2.2.2.2.2.2.2.2.2.2.2.2.2.2.2.2.2.2.2.2.2.2.2.2.2.2.2.2.2.2.2.2.2.2.2.2.2.2.2.2.2.2.2.2.2.1, .int), (u.2.2.2.2.2.2.2.2.2.2.2.2.2.2.2.2.2.2.2.2.2.2.2.2.2.2.2.2.2.2.2.2.2.2.2.2.2.2.2.2.2.2.2.2.2.2.1, .long), (u.2.2.2.2.2.2.2.2.2.2.2.2.2.2.2.2.2.2.2.2.2.2.2.2.2.2.2.2.2.2.2.2.2.2.2.2.2.2.2.2.2.2.2.2.2.2.2.1, .int), (u.2.2.2.2.2.2.2.2.2.2.2.2.2.2.2.2.2.2.2.2.2.2.2.2.2.2.2.2.2.2.2.2.2.2.2.2.2.2.2.2.2.2.2.2.2.2.2.2.1, .int), (u.2.2.2.2.2.2.2.2.2.2.2.2.2.2.2.2.2.2.2.2.2.2.2.2.2.2.2.2.2.2.2.2.2.2.2.2.2.2.2.2.2.2.2.2.2.2.2.2.2.1, .int), (u.2.2.2.2.2.2.2.2.2.2.2.2.2.2.2.2.2.2.2.2.2.2.2.2.2.2.2.2.2.2.2.2.2.2.2.2.2.2.2.2.2.2.2.2.2.2.2.2.2.2.1, .int), (u.2.2.2.2.2.2.2.2.2.2.2.2.2.2.2.2.2.2.2.2.2.2.2.2.2.2.2.2.2.2.2.2.2.2.2.2.2.2.2.2.2.2.2.2.2.2.2.2.2.2.2.1, .int), (u.2.2.2.2.2.2.2.2.2.2.2.2.2.2.2.2.2.2.2.2.2.2.2.2.2.2.2.2.2.2.2.2.2.2.2.2.2.2.2.2.2.2.2.2.2.2.2.2.2.2.2.2.1, .long), (u.2.2.2.2.2.2.2.2.2.2.2.2.2.2.2.2.2.2.2.2.2.2.2.2.2.2.2.2.2.2.2.2.2.2.2.2.2.2.2.2.2.2.2.2.2.2.2.2.2.2.2.2.2.1, .long), (u.2.2.2.2.2.2.2.2.2.2.2.2.2.2.2.2.2.2.2.2.2.2.2.2.2.2.2.2.2.2.2.2.2.2.2.2.2.2.2.2.2.2.2.2.2.2.2.2.2.2.2.2.2.2.2, .int)] t ∧ va_D (va_A [(h0, .inr (11, [.null, .null, .null, .null, .null, .int x0, .int x1]))] sz) [(h0, .inr (11, [.ref u.1, .ref u.2.1, .ref u.2.2.2.2.2.2.2.2.1, .ref u.2.2.2.2.2.2.2.2.2.2.2.2.2.1, .ref u.2.2.2.2.2.2.2.2.2.2.2.2.2.2.2.2.2.2.2.2.2.2.2.2.2.2.2.2.2.2.2.2.1, .int x0, .int x1])), (u.1, .inl (u.2.2.2.2.2.2.2.2.2.2.2.2.2.2.2.2.2.2.2.2.2.2.2.2.2.2.2.2.2.2.2.2.2.2.1, 2600, .inl (fun _ => 0))), (u.2.1, .inr (1, [.ref u.2.2.1, .ref u.2.2.2.1, .ref u.2.2.2.2.1, .ref u.2.2.2.2.2.1])), (u.2.2.1, .inl (u.2.2.2.2.2.2.2.2.2.2.2.2.2.2.2.2.2.2.2.2.2.2.2.2.2.2.2.2.2.2.2.2.2.2.2.1, 32768, .inl (fun _ => 0))), (u.2.2.2.1, .inr (7, [.int 0, .int 0, .int 0, .int 0, .int 0])), (u.2.2.2.2.1, .inr (5, [.int 304, .int 0, .int 0, .int 0, .int 0, .int 0])), (u.2.2.2.2.2.1, .inr (9, [.ref u.2.2.2.2.2.2.1, .ref u.2.2.2.2.2.2.2.1, .int 0, .int 0, .int 0, .int 0])), (u.2.2.2.2.2.2.1, .inl (u.2.2.2.2.2.2.2.2.2.2.2.2.2.2.2.2.2.2.2.2.2.2.2.2.2.2.2.2.2.2.2.2.2.2.2.2.1, 3, .inl (fun _ => 0))), (u.2.2.2.2.2.2.2.1, .inl (u.2.2.2.2.2.2.2.2.2.2.2.2.2.2.2.2.2.2.2.2.2.2.2.2.2.2.2.2.2.2.2.2.2.2.2.2.2.1, 3, .inl (fun _ => 0))), (u.2.2.2.2.2.2.2.2.1, .inr (2, [.ref u.2.2.2.2.2.2.2.2.2.1, .ref u.2.2.2.2.2.2.2.2.2.2.1, .ref u.2.1, .int 0, .int 0, .int 0, .int 0, .int 0])), (u.2.2.2.2.2.2.2.2.2.1, .inl (u.2.2.2.2.2.2.2.2.2.2.2.2.2.2.2.2.2.2.2.2.2.2.2.2.2.2.2.2.2.2.2.2.2.2.2.2.2.2.1, 16, .inl (fun _ => 0))), (u.2.2.2.2.2.2.2.2.2.2.1, .inr (3, [.ref u.2.2.2.2.2.2.2.2.2.2.2.1, .ref u.2.2.2.2.2.2.2.2.2.2.2.2.1, .int 0])), (u.2.2.2.2.2.2.2.2.2.2.2.1, .inl (u.2.2.2.2.2.2.2.2.2.2.2.2.2.2.2.2.2.2.2.2.2.2.2.2.2.2.2.2.2.2.2.2.2.2.2.2.2.2.2.1, 40, .inl (fun _ => 0))), (u.2.2.2.2.2.2.2.2.2.2.2.2.1, .inl (u.2.2.2.2.2.2.2.2.2.2.2.2.2.2.2.2.2.2.2.2.2.2.2.2.2.2.2.2.2.2.2.2.2.2.2.2.2.2.2.2.1, 40, .inl (fun _ => 0))), (u.2.2.2.2.2.2.2.2.2.2.2.2.2.1, .inr (0, [.ref u.2.2.2.2.2.2.2.2.2.2.2.2.2.2.2.2.2.2.2.2.2.2.2.2.2.2.1, .ref u.2.2.2.2.2.2.2.2.2.2.2.2.2.2.1, .ref u.2.2.2.2.2.2.2.2.2.2.2.2.2.2.2.1, .ref u.2.2.2.2.2.2.2.2.2.2.2.2.2.2.2.2.1, .ref u.2.2.2.2.2.2.2.2.2.2.2.2.2.2.2.2.2.1, .ref u.2.2.2.2.2.2.2.2.2.2.2.2.2.2.2.2.2.2.1, .ref u.2.2.2.2.2.2.2.2.2.2.2.2.2.2.2.2.2.2.2.2.2.2.1, .int 0, .int 0, .int 0, .int 0, .int 0, .int 0, .int 0, .int 0, .int 0, .int 0])), (u.2.2.2.2.2.2.2.2.2.2.2.2.2.2.1, .inr (6, [.int 0, .int 0, .int 0, .int 0, .int 0])), (u.2.2.2.2.2.2.2.2.2.2.2.2.2.2.2.1, .inr (6, [.int 0, .int 0, .int 0, .int 0, .int 0])), (u.2.2.2.2.2.2.2.2.2.2.2.2.2.2.2.2.1, .inl (u.2.2.2.2.2.2.2.2.2.2.2.2.2.2.2.2.2.2.2.2.2.2.2.2.2.2.2.2.2.2.2.2.2.2.2.2.2.2.2.2.2.1, 2600, .inl (fun _ => 0))), (u.2.2.2.2.2.2.2.2.2.2.2.2.2.2.2.2.2.1, .inl (u.2.2.2.2.2.2.2.2.2.2.2.2.2.2.2.2.2.2.2.2.2.2.2.2.2.2.2.2.2.2.2.2.2.2.2.2.2.2.2.2.2.2.1, 2600, .inl (fun _ => 0))), (u.2.2.2.2.2.2.2.2.2.2.2.2.2.2.2.2.2.2.1, .inr (4, [.ref u.2.2.2.2.2.2.2.2.2.2.2.2.2.2.2.2.2.2.2.1, .ref u.2.2.2.2.2.2.2.2.2.2.2.2.2.2.2.2.2.2.2.2.1, .ref u.2.2.2.2.2.2.2.2.2.2.2.2.2.2.2.2.2.2.2.2.2.1, .int 0])), (u.2.2.2.2.2.2.2.2.2.2.2.2.2.2.2.2.2.2.2.1, .inl (u.2.2.2.2.2.2.2.2.2.2.2.2.2.2.2.2.2.2.2.2.2.2.2.2.2.2.2.2.2.2.2.2.2.2.2.2.2.2.2.2.2.2.2.1, 60, .inr (.inl (fun _ => 0)))), (u.2.2.2.2.2.2.2.2.2.2.2.2.2.2.2.2.2.2.2.2.1, .inl (u.2.2.2.2.2.2.2.2.2.2.2.2.2.2.2.2.2.2.2.2.2.2.2.2.2.2.2.2.2.2.2.2.2.2.2.2.2.2.2.2.2.2.2.2.1, 60, .inl (fun _ => 0))), (u.2.2.2.2.2.2.2.2.2.2.2.2.2.2.2.2.2.2.2.2.2.1, .inl (u.2.2.2.2.2.2.2.2.2.2.2.2.2.2.2.2.2.2.2.2.2.2.2.2.2.2.2.2.2.2.2.2.2.2.2.2.2.2.2.2.2.2.2.2.2.1, 60, .inl (fun _ => 0))), (u.2.2.2.2.2.2.2.2.2.2.2.2.2.2.2.2.2.2.2.2.2.2.1, .inr (4, [.ref u.2.2.2.2.2.2.2.2.2.2.2.2.2.2.2.2.2.2.2.2.2.2.2.1, .ref u.2.2.2.2.2.2.2.2.2.2.2.2.2.2.2.2.2.2.2.2.2.2.2.2.1, .ref u.2.2.2.2.2.2.2.2.2.2.2.2.2.2.2.2.2.2.2.2.2.2.2.2.2.1, .int 0])), (u.2.2.2.2.2.2.2.2.2.2.2.2.2.2.2.2.2.2.2.2.2.2.2.1, .inl (u.2.2.2.2.2.2.2.2.2.2.2.2.2.2.2.2.2.2.2.2.2.2.2.2.2.2.2.2.2.2.2.2.2.2.2.2.2.2.2.2.2.2.2.2.2.2.1, 60, .inr (.inl (fun _ => 0)))), (u.2.2.2.2.2.2.2.2.2.2.2.2.2.2.2.2.2.2.2.2.2.2.2.2.1, .inl (u.2.2.2.2.2.2.2.2.2.2.2.2.2.2.2.2.2.2.2.2.2.2.2.2.2.2.2.2.2.2.2.2.2.2.2.2.2.2.2.2.2.2.2.2.2.2.2.1, 60, .inl (fun _ => 0))), (u.2.2.2.2.2.2.2.2.2.2.2.2.2.2.2.2.2.2.2.2.2.2.2.2.2.1, .inl (u.2.2.2.2.2.2.2.2.2.2.2.2.2.2.2.2.2.2.2.2.2.2.2.2.2.2.2.2.2.2.2.2.2.2.2.2.2.2.2.2.2.2.2.2.2.2.2.2.1, 60, .inl (fun _ => 0))), (u.2.2.2.2.2.2.2.2.2.2.2.2.2.2.2.2.2.2.2.2.2.2.2.2.2.2.1, .inr (10, [.ref u.2.2.2.2.2.2.2.2.2.2.2.2.2.2.2.2.2.2.2.2.2.2.2.2.2.2.2.1, .ref u.2.2.2.2.2.2.2.2.2.2.2.2.2.2.2.2.2.2.2.2.2.2.2.2.2.2.2.2.1, .ref u.2.2.2.2.2.2.2.2.2.2.2.2.2.2.2.2.2.2.2.2.2.2.2.2.2.2.2.2.2.1, .ref u.2.2.2.2.2.2.2.2.2.2.2.2.2.2.2.2.2.2.2.2.2.2.2.2.2.2.2.2.2.2.1, .ref u.2.2.2.2.2.2.2.2.2.2.2.2.2.2.2.2.2.2.2.2.2.2.2.2.2.2.2.2.2.2.2.1, .ref u.1, .int 0, .int 0, .int 0, .int 0, .int 0, .long 0])), (u.2.2.2.2.2.2.2.2.2.2.2.2.2.2.2.2.2.2.2.2.2.2.2.2.2.2.2.1, .inl (u.2.2.2.2.2.2.2.2.2.2.2.2.2.2.2.2.2.2.2.2.2.2.2.2.2.2.2.2.2.2.2.2.2.2.2.2.2.2.2.2.2.2.2.2.2.2.2.2.2.1, 2501, .inl (fun _ => 0))), (u.2.2.2.2.2.2.2.2.2.2.2.2.2.2.2.2.2.2.2.2.2.2.2.2.2.2.2.2.1, .inl (u.2.2.2.2.2.2.2.2.2.2.2.2.2.2.2.2.2.2.2.2.2.2.2.2.2.2.2.2.2.2.2.2.2.2.2.2.2.2.2.2.2.2.2.2.2.2.2.2.2.2.1, 2501, .inl (fun _ => 0))), (u.2.2.2.2.2.2.2.2.2.2.2.2.2.2.2.2.2.2.2.2.2.2.2.2.2.2.2.2.2.1, .inl (u.2.2.2.2.2.2.2.2.2.2.2.2.2.2.2.2.2.2.2.2.2.2.2.2.2.2.2.2.2.2.2.2.2.2.2.2.2.2.2.2.2.2.2.2.2.2.2.2.2.2.2.1, 2501, .inl (fun _ => 0))), (u.2.2.2.2.2.2.2.2.2.2.2.2.2.2.2.2.2.2.2.2.2.2.2.2.2.2.2.2.2.2.1, .inl (u.2.2.2.2.2.2.2.2.2.2.2.2.2.2.2.2.2.2.2.2.2.2.2.2.2.2.2.2.2.2.2.2.2.2.2.2.2.2.2.2.2.2.2.2.2.2.2.2.2.2.2.2.1, 2501, .inr (.inl (fun _ => 0)))), (u.2.2.2.2.2.2.2.2.2.2.2.2.2.2.2.2.2.2.2.2.2.2.2.2.2.2.2.2.2.2.2.1, .inl (u.2.2.2.2.2.2.2.2.2.2.2.2.2.2.2.2.2.2.2.2.2.2.2.2.2.2.2.2.2.2.2.2.2.2.2.2.2.2.2.2.2.2.2.2.2.2.2.2.2.2.2.2.2.1, 35, .inr (.inl u.2.2.2.2.2.2.2.2.2.2.2.2.2.2.2.2.2.2.2.2.2.2.2.2.2.2.2.2.2.2.2.2.2.2.2.2.2.2.2.2.2.2.2.2.2.2.2.2.2.2.2.2.2.2.1))), (u.2.2.2.2.2.2.2.2.2.2.2.2.2.2.2.2.2.2.2.2.2.2.2.2.2.2.2.2.2.2.2.2.1, .inr (8, [.ref u.2.2.2.2.2.2.2.2.2.2.2.2.2.2.2.2.2.2.2.2.2.2.2.2.2.2.2.2.2.2.2.2.2.1, .ref u.2.1, .int 0, .int 0, .int 0])), (u.2.2.2.2.2.2.2.2.2.2.2.2.2.2.2.2.2.2.2.2.2.2.2.2.2.2.2.2.2.2.2.2.2.1, .inl (u.2.2.2.2.2.2.2.2.2.2.2.2.2.2.2.2.2.2.2.2.2.2.2.2.2.2.2.2.2.2.2.2.2.2.2.2.2.2.2.2.2.2.2.2.2.2.2.2.2.2.2.2.2.2.2, 64, .inl (fun _ => 0)))]) (va_A [(h0, .inr (11, [.null, .null, .null, .null, .null, .int x0, .int x1]))] sz)) 34 51217 (va_A [(h0, .inr (11, [.null, .null, .null, .null, .null, .int x0, .int x1]))] sz) := by
  refine Met.ofW (cc := cX11_init) (maxL := 1) (ret := none) (by decide) rfl ?_
  intro p e s m args below meth c s₁ B hml hv
  obtain ⟨rfl, hsz, hP, hK, hD0, hE⟩ := hv
  have hx := B.exec
  have hb := B.bytes
  have hr := B.returns
  have hts0 := atoms_spec (ws := Cond.code yX11_init cX11_init 1 none :: lw_G) B.pre
  have hG : ∀ w ∈ lw_G, w.before _ s = true := fun w h => hts0 w (List.mem_cons_of_mem _ h)
  have hown : s.vm.findClass RX11 = some m.cls := findClass_of_methodNamed B.named
  have hlocks := B.notSynchronized
  have hin : meth.name = "<init>" := (name_of_methodNamed B.named B.method).1
  subst hsz
  have hD := hD0.self (sz := s.heap.size)
  generalize hAe : va_A [(h0, .inr (11, [.null, .null, .null, .null, .null, .int x0, .int x1]))] s.heap.size = A at hD hE ⊢
  have hA : ∀ q : Nat, s.heap.size ≤ q → A q := fun q h => by rw [← hAe]; exact Or.inr h
  have hS : va_S A s.heap s.heap [] := va_S.rf
  have hP : va_P (dC, dI) vwCl [(h0, .inr (11, [.null, .null, .null, .null, .null, .int x0, .int x1]))] s.heap := hP
  have hl := lv_entry ([.ref h0]) (n := 1) (Nat.le_of_ble_eq_true rfl)
  rw [lg_entry_eq]
  generalize (lg_sl ([.ref h0]) ++ List.replicate (1 - (lg_sl ([.ref h0])).length) Slot.unset).toArray = ls at hl ⊢
  have hl : lv_has ls 1 [(0, .ref h0)] := hl
  generalize ([.ref h0] : List Value).toArray = ar at hG ⊢
  refine wq (fun Q hQ => ?_)
  refine lv_aload_n hx hb dX11_init_0 rfl (lv_at hl 0 rfl) ?_
  refine W.objInit hx hb hown (hG _ wd_31) (hG _ wd_32) (hG _ wd_33) rfl (by rw [hml]; exact hl.1) rfl dX11_init_1 (Nat.le_of_ble_eq_true rfl) (Nat.le_of_ble_eq_true rfl) ?_
  refine W.eq (g2 := F0 m 4 ls []) rfl ?_
  refine lv_aload_n hx hb dX11_init_4 rfl (lv_at hl 0 rfl) ?_
  refine lv_sipush (v := 2600) hx hb dX11_init_5 (by decide) ?_
  refine va_newa (atype := .int) (ty := .int) (a0 := (2600, (.inl (fun _ => 0)))) hx hb (hG _ wd_63) rfl hK hP hD hS hA (fun _ => rfl) (by decide) (by decide) (by decide) (by decide) (by decide) dX11_init_8 (fun q1 ny2 H hK hP hD hS => ?_)
  obtain ⟨hP, hD⟩ := nv_eq (ws' := [(h0, .inr (11, [.null, .null, .null, .null, .null, .int x0, .int x1])), (q1, .inl (ny2, 2600, .inl (fun _ => 0)))]) hP hD rfl
  have hK : va_K (dC, dI) vwCl [(ny2, .int)] s := hK
  refine W.widen (k := 1) (n := 2600) (by decide) (by decide) ?_
  refine va_putF (D := (dC, dI)) (ci := 11) (v := .ref q1) (ty := .array .int) (C := RX11) (T := TX11) (N := 7) hx hb hG inGX11 tyX11 tyX11_ok nmX11 hown hK hP hD hS 0 rfl rfl 0 (by decide) (hG _ wd_395) (fun _ h9 => h9) rfl hin rfl (by decide +kernel) rfl rfl (Nat.le_of_ble_eq_true rfl) dX11_init_10 (fun H locs hP hD hS => ?_)
  obtain ⟨hP, hD⟩ := nv_eq (ws' := [(h0, .inr (11, [.ref q1, .null, .null, .null, .null, .int x0, .int x1])), (q1, .inl (ny2, 2600, .inl (fun _ => 0)))]) hP hD rfl
  refine lv_aload_n hx hb dX11_init_13 rfl (lv_at hl 0 rfl) ?_
  refine va_new (ci := 1) (fs := [.null, .null, .null, .null]) (C := RX1) (T := TX1) (N := 4) hx hb hG inGX1 tyX1 tyX1_ok hown (hG _ wd_34) (hG _ wd_35) (hG _ wd_2) hK hP hD hS hA rfl (fun j hj => by rcases (show j = 0 ∨ j = 1 ∨ j = 2 ∨ j = 3 by omega) with rfl | rfl | rfl | rfl <;> rfl) (by decide) (by decide) dX11_init_14 (fun q3 H hP hD hS => ?_)
  obtain ⟨hP, hD⟩ := nv_eq (ws' := [(h0, .inr (11, [.ref q1, .null, .null, .null, .null, .int x0, .int x1])), (q1, .inl (ny2, 2600, .inl (fun _ => 0))), (q3, .inr (1, [.null, .null, .null, .null]))]) hP hD rfl
  refine W.widen (k := 2) (n := 2604) (by decide) (by decide) ?_
  refine lv_dup hx hb dX11_init_17 rfl ?_
  obtain ⟨hPc, hDc, hFc⟩ := nv_sub3 (wc := [(q3, .inr (1, [.null, .null, .null, .null]))]) hP hD hS hA [2] (by decide) rfl
  have hKc := hK.sub (tys' := []) [] rfl
  refine va_callv (va_runIN (As := []) (rest := [.ref q3, .ref h0]) ⟨hx, hb, hml, hown, hG⟩ (cX1_init_1 l dC dI adK adV q3 H.size) ⟨va_cnB 0 hG (gC wd_38) rfl rfl rfl (evW0 hE) (hG _ wd_2) (by decide +kernel) ⟨Nat.le_of_ble_eq_true rfl, Nat.le_of_ble_eq_true rfl⟩, rfl, (hG _ wd_37)⟩ ⟨fun a U g mk q => by obtain ⟨q0, q1, qP, qK, qD, qE⟩ := q; exact ⟨q0, q1, qP, va_K.moved (u := U) (U := U.calling g mk a) (Vm.Alike.refl U.vm) qK, qD, qE.same rfl⟩, fun U hU hW => ⟨rfl, by rw [hU], by rw [hU]; exact hPc, va_K.moved hW.alike hKc, hDc.weaken (fun _ _ _ _ => trivial), by rw [hU]; exact ((hE.kept hS.2.1).narrow hFc).warm hW⟩⟩ rfl rfl hl.1 rfl (lv_room (Nat.le_of_ble_eq_true rfl)) dX11_init_18 ⟨by decide, by decide⟩) hS (fun q _ h => hFc q h) hFc (fun u5 t H1 locs ht hvm hw hB hz1 hk1 hS => ?_)
  obtain ⟨u5_0, u5_1, u5_2, u5_3, u5_4, u5_5, u5_6, u5_7, u5_8⟩ := u5
  obtain ⟨hP1, hK1, hD1⟩ := hB
  rw [ht] at hP1
  have hK1 := va_K.moved hvm.symm hK1
  obtain ⟨hP, hD⟩ := nv_join (wf := [(h0, .inr (11, [.ref q1, .null, .null, .null, .null, .int x0, .int x1])), (q1, .inl (ny2, 2600, .inl (fun _ => 0))), (q3, .inr (1, [.ref u5_0, .ref u5_1, .ref u5_2, .ref u5_3])), (u5_0, .inl (u5_6, 32768, .inl (fun _ => 0))), (u5_1, .inr (7, [.int 0, .int 0, .int 0, .int 0, .int 0])), (u5_2, .inr (5, [.int 304, .int 0, .int 0, .int 0, .int 0, .int 0])), (u5_3, .inr (9, [.ref u5_4, .ref u5_5, .int 0, .int 0, .int 0, .int 0])), (u5_4, .inl (u5_7, 3, .inl (fun _ => 0))), (u5_5, .inl (u5_8, 3, .inl (fun _ => 0)))]) hP hD [2] [0, 1] rfl rfl (by decide) (by decide) hk1 hFc hP1 hD1 rfl
  have hK := (hK.sub (tys' := [(ny2, .int)]) [0] rfl).app hK1
  generalize H1 = H at hP hS ⊢
  have hK : va_K (dC, dI) vwCl [(ny2, .int), (u5_6, .int), (u5_7, .int), (u5_8, .int)] s := hK
  refine W.widen (k := 8) (n := 35395) (by decide) (by decide) ?_
  refine va_putF (D := (dC, dI)) (ci := 11) (v := .ref q3) (ty := .object "NapMachine$Bus") (C := RX11) (T := TX11) (N := 7) hx hb hG inGX11 tyX11 tyX11_ok nmX11 hown hK hP hD hS 0 rfl rfl 1 (by decide) (hG _ wd_396) (fun _ h9 => h9) rfl hin rfl (by decide +kernel) rfl rfl (Nat.le_of_ble_eq_true rfl) dX11_init_21 (fun H locs hP hD hS => ?_)
  obtain ⟨hP, hD⟩ := nv_eq (ws' := [(h0, .inr (11, [.ref q1, .ref q3, .null, .null, .null, .int x0, .int x1])), (q1, .inl (ny2, 2600, .inl (fun _ => 0))), (q3, .inr (1, [.ref u5_0, .ref u5_1, .ref u5_2, .ref u5_3])), (u5_0, .inl (u5_6, 32768, .inl (fun _ => 0))), (u5_1, .inr (7, [.int 0, .int 0, .int 0, .int 0, .int 0])), (u5_2, .inr (5, [.int 304, .int 0, .int 0, .int 0, .int 0, .int 0])), (u5_3, .inr (9, [.ref u5_4, .ref u5_5, .int 0, .int 0, .int 0, .int 0])), (u5_4, .inl (u5_7, 3, .inl (fun _ => 0))), (u5_5, .inl (u5_8, 3, .inl (fun _ => 0)))]) hP hD rfl
  refine lv_aload_n hx hb dX11_init_24 rfl (lv_at hl 0 rfl) ?_
  refine va_new (ci := 2) (fs := [.null, .null, .null, .int 0, .int 0, .int 0, .int 0, .int 0]) (C := RX2) (T := TX2) (N := 8) hx hb hG inGX2 tyX2 tyX2_ok hown (hG _ wd_127) (hG _ wd_128) (hG _ wd_6) hK hP hD hS hA rfl (fun j hj => by rcases (show j = 0 ∨ j = 1 ∨ j = 2 ∨ j = 3 ∨ j = 4 ∨ j = 5 ∨ j = 6 ∨ j = 7 by omega) with rfl | rfl | rfl | rfl | rfl | rfl | rfl | rfl <;> rfl) (by decide) (by decide) dX11_init_25 (fun q6 H hP hD hS => ?_)
  obtain ⟨hP, hD⟩ := nv_eq (ws' := [(h0, .inr (11, [.ref q1, .ref q3, .null, .null, .null, .int x0, .int x1])), (q1, .inl (ny2, 2600, .inl (fun _ => 0))), (q3, .inr (1, [.ref u5_0, .ref u5_1, .ref u5_2, .ref u5_3])), (u5_0, .inl (u5_6, 32768, .inl (fun _ => 0))), (u5_1, .inr (7, [.int 0, .int 0, .int 0, .int 0, .int 0])), (u5_2, .inr (5, [.int 304, .int 0, .int 0, .int 0, .int 0, .int 0])), (u5_3, .inr (9, [.ref u5_4, .ref u5_5, .int 0, .int 0, .int 0, .int 0])), (u5_4, .inl (u5_7, 3, .inl (fun _ => 0))), (u5_5, .inl (u5_8, 3, .inl (fun _ => 0))), (q6, .inr (2, [.null, .null, .null, .int 0, .int 0, .int 0, .int 0, .int 0]))]) hP hD rfl
  refine W.widen (k := 9) (n := 35403) (by decide) (by decide) ?_
  refine lv_dup hx hb dX11_init_28 rfl ?_
  refine lv_aload_n hx hb dX11_init_29 rfl (lv_at hl 0 rfl) ?_
  refine va_get (D := (dC, dI)) (ci := 11) (v := .ref q3) (C := RX11) (T := TX11) (N := 7) hx hb hG inGX11 hown hK hP 0 rfl rfl 1 (by decide) (hG _ wd_396) (fun _ h9 => h9) rfl dX11_init_30 ?_
  obtain ⟨hPc, hDc, hFc⟩ := nv_sub3 (wc := [(q6, .inr (2, [.null, .null, .null, .int 0, .int 0, .int 0, .int 0, .int 0]))]) hP hD hS hA [9] (by decide) rfl
  have hKc := hK.sub (tys' := []) [] rfl
  refine va_callv (va_runI (As := [.ref q3]) (rest := [.ref q6, .ref h0]) ⟨hx, hb, hml, hown, hG⟩ (cX2_init_1 l dC dI adK adV q6 q3 H.size 0 0 0 0 0 (iv_w (by decide : iv 0 0 0) (by decide) (by decide))) (cwI 1 hG (gC wd_131) rfl rfl rfl (hG _ wd_6) (hG _ wd_129) (hG _ wd_130) rfl (by decide +kernel) ⟨Nat.le_of_ble_eq_true rfl, Nat.le_of_ble_eq_true rfl⟩) ⟨fun a U g mk q => by obtain ⟨q0, q1, qP, qK, qD, qE⟩ := q; exact ⟨q0, q1, qP, va_K.moved (u := U) (U := U.calling g mk a) (Vm.Alike.refl U.vm) qK, qD, qE.same rfl⟩, fun U hU hW => ⟨rfl, by rw [hU], by rw [hU]; exact hPc, va_K.moved hW.alike hKc, hDc.weaken (fun _ _ _ _ => trivial), by rw [hU]; exact ((hE.kept hS.2.1).narrow hFc).warm hW⟩⟩ rfl rfl hl.1 rfl (lv_room (Nat.le_of_ble_eq_true rfl)) dX11_init_33 ⟨by decide, by decide⟩) hS (fun q _ h => hFc q h) hFc (fun u8 t H1 locs ht hvm hw hB hz1 hk1 hS => ?_)
  obtain ⟨u8_0, u8_1, u8_2, u8_3, u8_4, u8_5, u8_6⟩ := u8
  obtain ⟨hP1, hK1, hD1⟩ := hB
  rw [ht] at hP1
  have hK1 := va_K.moved hvm.symm hK1
  obtain ⟨hP, hD⟩ := nv_join (wf := [(h0, .inr (11, [.ref q1, .ref q3, .null, .null, .null, .int x0, .int x1])), (q1, .inl (ny2, 2600, .inl (fun _ => 0))), (q3, .inr (1, [.ref u5_0, .ref u5_1, .ref u5_2, .ref u5_3])), (u5_0, .inl (u5_6, 32768, .inl (fun _ => 0))), (u5_1, .inr (7, [.int 0, .int 0, .int 0, .int 0, .int 0])), (u5_2, .inr (5, [.int 304, .int 0, .int 0, .int 0, .int 0, .int 0])), (u5_3, .inr (9, [.ref u5_4, .ref u5_5, .int 0, .int 0, .int 0, .int 0])), (u5_4, .inl (u5_7, 3, .inl (fun _ => 0))), (u5_5, .inl (u5_8, 3, .inl (fun _ => 0))), (q6, .inr (2, [.ref u8_0, .ref u8_1, .ref q3, .int 0, .int 0, .int 0, .int 0, .int 0])), (u8_0, .inl (u8_4, 16, .inl (fun _ => 0))), (u8_1, .inr (3, [.ref u8_2, .ref u8_3, .int 0])), (u8_2, .inl (u8_5, 40, .inl (fun _ => 0))), (u8_3, .inl (u8_6, 40, .inl (fun _ => 0)))]) hP hD [9] [0, 1, 2, 3, 4, 5, 6, 7, 8] rfl rfl (by decide) (by decide) hk1 hFc hP1 hD1 rfl
  have hK := (hK.sub (tys' := [(ny2, .int), (u5_6, .int), (u5_7, .int), (u5_8, .int)]) [0, 1, 2, 3] rfl).app hK1
  generalize H1 = H at hP hS ⊢
  have hK : va_K (dC, dI) vwCl [(ny2, .int), (u5_6, .int), (u5_7, .int), (u5_8, .int), (u8_4, .int), (u8_5, .int), (u8_6, .int)] s := hK
  refine W.widen (k := 13) (n := 35502) (by decide) (by decide) ?_
  refine va_putF (D := (dC, dI)) (ci := 11) (v := .ref q6) (ty := .object "NapMachine$Core") (C := RX11) (T := TX11) (N := 7) hx hb hG inGX11 tyX11 tyX11_ok nmX11 hown hK hP hD hS 0 rfl rfl 2 (by decide) (hG _ wd_397) (fun _ h9 => h9) rfl hin rfl (by decide +kernel) rfl rfl (Nat.le_of_ble_eq_true rfl) dX11_init_36 (fun H locs hP hD hS => ?_)
  obtain ⟨hP, hD⟩ := nv_eq (ws' := [(h0, .inr (11, [.ref q1, .ref q3, .ref q6, .null, .null, .int x0, .int x1])), (q1, .inl (ny2, 2600, .inl (fun _ => 0))), (q3, .inr (1, [.ref u5_0, .ref u5_1, .ref u5_2, .ref u5_3])), (u5_0, .inl (u5_6, 32768, .inl (fun _ => 0))), (u5_1, .inr (7, [.int 0, .int 0, .int 0, .int 0, .int 0])), (u5_2, .inr (5, [.int 304, .int 0, .int 0, .int 0, .int 0, .int 0])), (u5_3, .inr (9, [.ref u5_4, .ref u5_5, .int 0, .int 0, .int 0, .int 0])), (u5_4, .inl (u5_7, 3, .inl (fun _ => 0))), (u5_5, .inl (u5_8, 3, .inl (fun _ => 0))), (q6, .inr (2, [.ref u8_0, .ref u8_1, .ref q3, .int 0, .int 0, .int 0, .int 0, .int 0])), (u8_0, .inl (u8_4, 16, .inl (fun _ => 0))), (u8_1, .inr (3, [.ref u8_2, .ref u8_3, .int 0])), (u8_2, .inl (u8_5, 40, .inl (fun _ => 0))), (u8_3, .inl (u8_6, 40, .inl (fun _ => 0)))]) hP hD rfl
  refine lv_aload_n hx hb dX11_init_39 rfl (lv_at hl 0 rfl) ?_
  refine va_new (ci := 0) (fs := [.null, .null, .null, .null, .null, .null, .null, .int 0, .int 0, .int 0, .int 0, .int 0, .int 0, .int 0, .int 0, .int 0, .int 0]) (C := RX0) (T := TX0) (N := 17) hx hb hG inGX0 tyX0 tyX0_ok hown (hG _ wd_174) (hG _ wd_175) (hG _ wd_8) hK hP hD hS hA rfl (fun j hj => by rcases (show j = 0 ∨ j = 1 ∨ j = 2 ∨ j = 3 ∨ j = 4 ∨ j = 5 ∨ j = 6 ∨ j = 7 ∨ j = 8 ∨ j = 9 ∨ j = 10 ∨ j = 11 ∨ j = 12 ∨ j = 13 ∨ j = 14 ∨ j = 15 ∨ j = 16 by omega) with rfl | rfl | rfl | rfl | rfl | rfl | rfl | rfl | rfl | rfl | rfl | rfl | rfl | rfl | rfl | rfl | rfl <;> rfl) (by decide) (by decide) dX11_init_40 (fun q9 H hP hD hS => ?_)
  obtain ⟨hP, hD⟩ := nv_eq (ws' := [(h0, .inr (11, [.ref q1, .ref q3, .ref q6, .null, .null, .int x0, .int x1])), (q1, .inl (ny2, 2600, .inl (fun _ => 0))), (q3, .inr (1, [.ref u5_0, .ref u5_1, .ref u5_2, .ref u5_3])), (u5_0, .inl (u5_6, 32768, .inl (fun _ => 0))), (u5_1, .inr (7, [.int 0, .int 0, .int 0, .int 0, .int 0])), (u5_2, .inr (5, [.int 304, .int 0, .int 0, .int 0, .int 0, .int 0])), (u5_3, .inr (9, [.ref u5_4, .ref u5_5, .int 0, .int 0, .int 0, .int 0])), (u5_4, .inl (u5_7, 3, .inl (fun _ => 0))), (u5_5, .inl (u5_8, 3, .inl (fun _ => 0))), (q6, .inr (2, [.ref u8_0, .ref u8_1, .ref q3, .int 0, .int 0, .int 0, .int 0, .int 0])), (u8_0, .inl (u8_4, 16, .inl (fun _ => 0))), (u8_1, .inr (3, [.ref u8_2, .ref u8_3, .int 0])), (u8_2, .inl (u8_5, 40, .inl (fun _ => 0))), (u8_3, .inl (u8_6, 40, .inl (fun _ => 0))), (q9, .inr (0, [.null, .null, .null, .null, .null, .null, .null, .int 0, .int 0, .int 0, .int 0, .int 0, .int 0, .int 0, .int 0, .int 0, .int 0]))]) hP hD rfl
  refine W.widen (k := 14) (n := 35519) (by decide) (by decide) ?_
  refine lv_dup hx hb dX11_init_43 rfl ?_
  refine lv_aload_n hx hb dX11_init_44 rfl (lv_at hl 0 rfl) ?_
  refine va_get (D := (dC, dI)) (ci := 11) (v := .ref q1) (C := RX11) (T := TX11) (N := 7) hx hb hG inGX11 hown hK hP 0 rfl rfl 0 (by decide) (hG _ wd_395) (fun _ h9 => h9) rfl dX11_init_45 ?_
  obtain ⟨hPc, hDc, hFc⟩ := nv_sub3 (wc := [(q9, .inr (0, [.null, .null, .null, .null, .null, .null, .null, .int 0, .int 0, .int 0, .int 0, .int 0, .int 0, .int 0, .int 0, .int 0, .int 0]))]) hP hD hS hA [14] (by decide) rfl
  have hKc := hK.sub (tys' := []) [] rfl
  refine va_callv (va_runI (As := [.ref q1]) (rest := [.ref q9, .ref h0]) ⟨hx, hb, hml, hown, hG⟩ (cX0_init_1 l dC dI adK adV q9 q1 H.size 0 0 0 0 0 0 0 0 0 0 (iv_w (by decide : iv 0 0 0) (by decide) (by decide)) (iv_w (by decide : iv 0 0 0) (by decide) (by decide)) (iv_w (by decide : iv 0 0 0) (by decide) (by decide))) (cwI 1 hG (gC wd_178) rfl rfl rfl (hG _ wd_8) (hG _ wd_176) (hG _ wd_177) rfl (by decide +kernel) ⟨Nat.le_of_ble_eq_true rfl, Nat.le_of_ble_eq_true rfl⟩) ⟨fun a U g mk q => by obtain ⟨q0, q1, qP, qK, qD, qE⟩ := q; exact ⟨q0, q1, qP, va_K.moved (u := U) (U := U.calling g mk a) (Vm.Alike.refl U.vm) qK, qD, qE.same rfl⟩, fun U hU hW => ⟨rfl, by rw [hU], by rw [hU]; exact hPc, va_K.moved hW.alike hKc, hDc.weaken (fun _ _ _ _ => trivial), by rw [hU]; exact ((hE.kept hS.2.1).narrow hFc).warm hW⟩⟩ rfl rfl hl.1 rfl (lv_room (Nat.le_of_ble_eq_true rfl)) dX11_init_48 ⟨by decide, by decide⟩) hS (fun q _ h => hFc q h) hFc (fun u11 t H1 locs ht hvm hw hB hz1 hk1 hS => ?_)
  obtain ⟨u11_0, u11_1, u11_2, u11_3, u11_4, u11_5, u11_6, u11_7, u11_8, u11_9, u11_10, u11_11, u11_12, u11_13, u11_14, u11_15, u11_16, u11_17, u11_18, u11_19, u11_20, u11_21, u11_22, u11_23, u11_24, u11_25, u11_26, u11_27, u11_28, u11_29, u11_30, u11_31⟩ := u11
  obtain ⟨hP1, hK1, hD1⟩ := hB
  rw [ht] at hP1
  have hK1 := va_K.moved hvm.symm hK1
  obtain ⟨hP, hD⟩ := nv_join (wf := [(h0, .inr (11, [.ref q1, .ref q3, .ref q6, .null, .null, .int x0, .int x1])), (q1, .inl (ny2, 2600, .inl (fun _ => 0))), (q3, .inr (1, [.ref u5_0, .ref u5_1, .ref u5_2, .ref u5_3])), (u5_0, .inl (u5_6, 32768, .inl (fun _ => 0))), (u5_1, .inr (7, [.int 0, .int 0, .int 0, .int 0, .int 0])), (u5_2, .inr (5, [.int 304, .int 0, .int 0, .int 0, .int 0, .int 0])), (u5_3, .inr (9, [.ref u5_4, .ref u5_5, .int 0, .int 0, .int 0, .int 0])), (u5_4, .inl (u5_7, 3, .inl (fun _ => 0))), (u5_5, .inl (u5_8, 3, .inl (fun _ => 0))), (q6, .inr (2, [.ref u8_0, .ref u8_1, .ref q3, .int 0, .int 0, .int 0, .int 0, .int 0])), (u8_0, .inl (u8_4, 16, .inl (fun _ => 0))), (u8_1, .inr (3, [.ref u8_2, .ref u8_3, .int 0])), (u8_2, .inl (u8_5, 40, .inl (fun _ => 0))), (u8_3, .inl (u8_6, 40, .inl (fun _ => 0))), (q9, .inr (0, [.ref u11_12, .ref u11_0, .ref u11_1, .ref u11_2, .ref u11_3, .ref u11_4, .ref u11_8, .int 0, .int 0, .int 0, .int 0, .int 0, .int 0, .int 0, .int 0, .int 0, .int 0])), (u11_0, .inr (6, [.int 0, .int 0, .int 0, .int 0, .int 0])), (u11_1, .inr (6, [.int 0, .int 0, .int 0, .int 0, .int 0])), (u11_2, .inl (u11_18, 2600, .inl (fun _ => 0))), (u11_3, .inl (u11_19, 2600, .inl (fun _ => 0))), (u11_4, .inr (4, [.ref u11_5, .ref u11_6, .ref u11_7, .int 0])), (u11_5, .inl (u11_20, 60, .inr (.inl (fun _ => 0)))), (u11_6, .inl (u11_21, 60, .inl (fun _ => 0))), (u11_7, .inl (u11_22, 60, .inl (fun _ => 0))), (u11_8, .inr (4, [.ref u11_9, .ref u11_10, .ref u11_11, .int 0])), (u11_9, .inl (u11_23, 60, .inr (.inl (fun _ => 0)))), (u11_10, .inl (u11_24, 60, .inl (fun _ => 0))), (u11_11, .inl (u11_25, 60, .inl (fun _ => 0))), (u11_12, .inr (10, [.ref u11_13, .ref u11_14, .ref u11_15, .ref u11_16, .ref u11_17, .ref q1, .int 0, .int 0, .int 0, .int 0, .int 0, .long 0])), (u11_13, .inl (u11_26, 2501, .inl (fun _ => 0))), (u11_14, .inl (u11_27, 2501, .inl (fun _ => 0))), (u11_15, .inl (u11_28, 2501, .inl (fun _ => 0))), (u11_16, .inl (u11_29, 2501, .inr (.inl (fun _ => 0)))), (u11_17, .inl (u11_30, 35, .inr (.inl u11_31)))]) hP hD [14] [0, 1, 2, 3, 4, 5, 6, 7, 8, 9, 10, 11, 12, 13] rfl rfl (by decide) (by decide) hk1 hFc hP1 hD1 rfl
  have hK := (hK.sub (tys' := [(ny2, .int), (u5_6, .int), (u5_7, .int), (u5_8, .int), (u8_4, .int), (u8_5, .int), (u8_6, .int)]) [0, 1, 2, 3, 4, 5, 6] rfl).app hK1
  generalize H1 = H at hP hS ⊢
  have hK : va_K (dC, dI) vwCl [(ny2, .int), (u5_6, .int), (u5_7, .int), (u5_8, .int), (u8_4, .int), (u8_5, .int), (u8_6, .int), (u11_18, .int), (u11_19, .int), (u11_20, .long), (u11_21, .int), (u11_22, .int), (u11_23, .long), (u11_24, .int), (u11_25, .int), (u11_26, .int), (u11_27, .int), (u11_28, .int), (u11_29, .long), (u11_30, .long)] s := hK
  refine W.widen (k := 32) (n := 51148) (by decide) (by decide) ?_
  refine va_putF (D := (dC, dI)) (ci := 11) (v := .ref q9) (ty := .object "NapMachine$Assembler") (C := RX11) (T := TX11) (N := 7) hx hb hG inGX11 tyX11 tyX11_ok nmX11 hown hK hP hD hS 0 rfl rfl 3 (by decide) (hG _ wd_398) (fun _ h9 => h9) rfl hin rfl (by decide +kernel) rfl rfl (Nat.le_of_ble_eq_true rfl) dX11_init_51 (fun H locs hP hD hS => ?_)
  obtain ⟨hP, hD⟩ := nv_eq (ws' := [(h0, .inr (11, [.ref q1, .ref q3, .ref q6, .ref q9, .null, .int x0, .int x1])), (q1, .inl (ny2, 2600, .inl (fun _ => 0))), (q3, .inr (1, [.ref u5_0, .ref u5_1, .ref u5_2, .ref u5_3])), (u5_0, .inl (u5_6, 32768, .inl (fun _ => 0))), (u5_1, .inr (7, [.int 0, .int 0, .int 0, .int 0, .int 0])), (u5_2, .inr (5, [.int 304, .int 0, .int 0, .int 0, .int 0, .int 0])), (u5_3, .inr (9, [.ref u5_4, .ref u5_5, .int 0, .int 0, .int 0, .int 0])), (u5_4, .inl (u5_7, 3, .inl (fun _ => 0))), (u5_5, .inl (u5_8, 3, .inl (fun _ => 0))), (q6, .inr (2, [.ref u8_0, .ref u8_1, .ref q3, .int 0, .int 0, .int 0, .int 0, .int 0])), (u8_0, .inl (u8_4, 16, .inl (fun _ => 0))), (u8_1, .inr (3, [.ref u8_2, .ref u8_3, .int 0])), (u8_2, .inl (u8_5, 40, .inl (fun _ => 0))), (u8_3, .inl (u8_6, 40, .inl (fun _ => 0))), (q9, .inr (0, [.ref u11_12, .ref u11_0, .ref u11_1, .ref u11_2, .ref u11_3, .ref u11_4, .ref u11_8, .int 0, .int 0, .int 0, .int 0, .int 0, .int 0, .int 0, .int 0, .int 0, .int 0])), (u11_0, .inr (6, [.int 0, .int 0, .int 0, .int 0, .int 0])), (u11_1, .inr (6, [.int 0, .int 0, .int 0, .int 0, .int 0])), (u11_2, .inl (u11_18, 2600, .inl (fun _ => 0))), (u11_3, .inl (u11_19, 2600, .inl (fun _ => 0))), (u11_4, .inr (4, [.ref u11_5, .ref u11_6, .ref u11_7, .int 0])), (u11_5, .inl (u11_20, 60, .inr (.inl (fun _ => 0)))), (u11_6, .inl (u11_21, 60, .inl (fun _ => 0))), (u11_7, .inl (u11_22, 60, .inl (fun _ => 0))), (u11_8, .inr (4, [.ref u11_9, .ref u11_10, .ref u11_11, .int 0])), (u11_9, .inl (u11_23, 60, .inr (.inl (fun _ => 0)))), (u11_10, .inl (u11_24, 60, .inl (fun _ => 0))), (u11_11, .inl (u11_25, 60, .inl (fun _ => 0))), (u11_12, .inr (10, [.ref u11_13, .ref u11_14, .ref u11_15, .ref u11_16, .ref u11_17, .ref q1, .int 0, .int 0, .int 0, .int 0, .int 0, .long 0])), (u11_13, .inl (u11_26, 2501, .inl (fun _ => 0))), (u11_14, .inl (u11_27, 2501, .inl (fun _ => 0))), (u11_15, .inl (u11_28, 2501, .inl (fun _ => 0))), (u11_16, .inl (u11_29, 2501, .inr (.inl (fun _ => 0)))), (u11_17, .inl (u11_30, 35, .inr (.inl u11_31)))]) hP hD rfl
  refine lv_aload_n hx hb dX11_init_54 rfl (lv_at hl 0 rfl) ?_
  refine va_new (ci := 8) (fs := [.null, .null, .int 0, .int 0, .int 0]) (C := RX8) (T := TX8) (N := 5) hx hb hG inGX8 tyX8 tyX8_ok hown (hG _ wd_373) (hG _ wd_374) (hG _ wd_16) hK hP hD hS hA rfl (fun j hj => by rcases (show j = 0 ∨ j = 1 ∨ j = 2 ∨ j = 3 ∨ j = 4 by omega) with rfl | rfl | rfl | rfl | rfl <;> rfl) (by decide) (by decide) dX11_init_55 (fun q12 H hP hD hS => ?_)
  obtain ⟨hP, hD⟩ := nv_eq (ws' := [(h0, .inr (11, [.ref q1, .ref q3, .ref q6, .ref q9, .null, .int x0, .int x1])), (q1, .inl (ny2, 2600, .inl (fun _ => 0))), (q3, .inr (1, [.ref u5_0, .ref u5_1, .ref u5_2, .ref u5_3])), (u5_0, .inl (u5_6, 32768, .inl (fun _ => 0))), (u5_1, .inr (7, [.int 0, .int 0, .int 0, .int 0, .int 0])), (u5_2, .inr (5, [.int 304, .int 0, .int 0, .int 0, .int 0, .int 0])), (u5_3, .inr (9, [.ref u5_4, .ref u5_5, .int 0, .int 0, .int 0, .int 0])), (u5_4, .inl (u5_7, 3, .inl (fun _ => 0))), (u5_5, .inl (u5_8, 3, .inl (fun _ => 0))), (q6, .inr (2, [.ref u8_0, .ref u8_1, .ref q3, .int 0, .int 0, .int 0, .int 0, .int 0])), (u8_0, .inl (u8_4, 16, .inl (fun _ => 0))), (u8_1, .inr (3, [.ref u8_2, .ref u8_3, .int 0])), (u8_2, .inl (u8_5, 40, .inl (fun _ => 0))), (u8_3, .inl (u8_6, 40, .inl (fun _ => 0))), (q9, .inr (0, [.ref u11_12, .ref u11_0, .ref u11_1, .ref u11_2, .ref u11_3, .ref u11_4, .ref u11_8, .int 0, .int 0, .int 0, .int 0, .int 0, .int 0, .int 0, .int 0, .int 0, .int 0])), (u11_0, .inr (6, [.int 0, .int 0, .int 0, .int 0, .int 0])), (u11_1, .inr (6, [.int 0, .int 0, .int 0, .int 0, .int 0])), (u11_2, .inl (u11_18, 2600, .inl (fun _ => 0))), (u11_3, .inl (u11_19, 2600, .inl (fun _ => 0))), (u11_4, .inr (4, [.ref u11_5, .ref u11_6, .ref u11_7, .int 0])), (u11_5, .inl (u11_20, 60, .inr (.inl (fun _ => 0)))), (u11_6, .inl (u11_21, 60, .inl (fun _ => 0))), (u11_7, .inl (u11_22, 60, .inl (fun _ => 0))), (u11_8, .inr (4, [.ref u11_9, .ref u11_10, .ref u11_11, .int 0])), (u11_9, .inl (u11_23, 60, .inr (.inl (fun _ => 0)))), (u11_10, .inl (u11_24, 60, .inl (fun _ => 0))), (u11_11, .inl (u11_25, 60, .inl (fun _ => 0))), (u11_12, .inr (10, [.ref u11_13, .ref u11_14, .ref u11_15, .ref u11_16, .ref u11_17, .ref q1, .int 0, .int 0, .int 0, .int 0, .int 0, .long 0])), (u11_13, .inl (u11_26, 2501, .inl (fun _ => 0))), (u11_14, .inl (u11_27, 2501, .inl (fun _ => 0))), (u11_15, .inl (u11_28, 2501, .inl (fun _ => 0))), (u11_16, .inl (u11_29, 2501, .inr (.inl (fun _ => 0)))), (u11_17, .inl (u11_30, 35, .inr (.inl u11_31))), (q12, .inr (8, [.null, .null, .int 0, .int 0, .int 0]))]) hP hD rfl
  refine W.widen (k := 33) (n := 51153) (by decide) (by decide) ?_
  refine lv_dup hx hb dX11_init_58 rfl ?_
  refine lv_aload_n hx hb dX11_init_59 rfl (lv_at hl 0 rfl) ?_
  refine va_get (D := (dC, dI)) (ci := 11) (v := .ref q3) (C := RX11) (T := TX11) (N := 7) hx hb hG inGX11 hown hK hP 0 rfl rfl 1 (by decide) (hG _ wd_396) (fun _ h9 => h9) rfl dX11_init_60 ?_
  obtain ⟨hPc, hDc, hFc⟩ := nv_sub3 (wc := [(q12, .inr (8, [.null, .null, .int 0, .int 0, .int 0]))]) hP hD hS hA [33] (by decide) rfl
  have hKc := hK.sub (tys' := []) [] rfl
  refine va_callv (va_runI (As := [.ref q3]) (rest := [.ref q12, .ref h0]) ⟨hx, hb, hml, hown, hG⟩ (cX8_init_1 l dC dI q12 q3 H.size 0 0 0 (iv_w (by decide : iv 0 0 0) (by decide) (by decide))) (cwI 1 hG (gC wd_377) rfl rfl rfl (hG _ wd_16) (hG _ wd_375) (hG _ wd_376) rfl (by decide +kernel) ⟨Nat.le_of_ble_eq_true rfl, Nat.le_of_ble_eq_true rfl⟩) ⟨fun a U g mk q => by obtain ⟨q0, q1, qP, qK, qD⟩ := q; exact ⟨q0, q1, qP, va_K.moved (u := U) (U := U.calling g mk a) (Vm.Alike.refl U.vm) qK, qD⟩, fun U hU hW => ⟨rfl, by rw [hU], by rw [hU]; exact hPc, va_K.moved hW.alike hKc, hDc.weaken (fun _ _ _ _ => trivial)⟩⟩ rfl rfl hl.1 rfl (lv_room (Nat.le_of_ble_eq_true rfl)) dX11_init_63 ⟨by decide, by decide⟩) hS (fun q _ h => hFc q h) hFc (fun u14 t H1 locs ht hvm hw hB hz1 hk1 hS => ?_)
  obtain ⟨u14_0, u14_1⟩ := u14
  obtain ⟨hP1, hK1, hD1⟩ := hB
  rw [ht] at hP1
  have hK1 := va_K.moved hvm.symm hK1
  obtain ⟨hP, hD⟩ := nv_join (wf := [(h0, .inr (11, [.ref q1, .ref q3, .ref q6, .ref q9, .null, .int x0, .int x1])), (q1, .inl (ny2, 2600, .inl (fun _ => 0))), (q3, .inr (1, [.ref u5_0, .ref u5_1, .ref u5_2, .ref u5_3])), (u5_0, .inl (u5_6, 32768, .inl (fun _ => 0))), (u5_1, .inr (7, [.int 0, .int 0, .int 0, .int 0, .int 0])), (u5_2, .inr (5, [.int 304, .int 0, .int 0, .int 0, .int 0, .int 0])), (u5_3, .inr (9, [.ref u5_4, .ref u5_5, .int 0, .int 0, .int 0, .int 0])), (u5_4, .inl (u5_7, 3, .inl (fun _ => 0))), (u5_5, .inl (u5_8, 3, .inl (fun _ => 0))), (q6, .inr (2, [.ref u8_0, .ref u8_1, .ref q3, .int 0, .int 0, .int 0, .int 0, .int 0])), (u8_0, .inl (u8_4, 16, .inl (fun _ => 0))), (u8_1, .inr (3, [.ref u8_2, .ref u8_3, .int 0])), (u8_2, .inl (u8_5, 40, .inl (fun _ => 0))), (u8_3, .inl (u8_6, 40, .inl (fun _ => 0))), (q9, .inr (0, [.ref u11_12, .ref u11_0, .ref u11_1, .ref u11_2, .ref u11_3, .ref u11_4, .ref u11_8, .int 0, .int 0, .int 0, .int 0, .int 0, .int 0, .int 0, .int 0, .int 0, .int 0])), (u11_0, .inr (6, [.int 0, .int 0, .int 0, .int 0, .int 0])), (u11_1, .inr (6, [.int 0, .int 0, .int 0, .int 0, .int 0])), (u11_2, .inl (u11_18, 2600, .inl (fun _ => 0))), (u11_3, .inl (u11_19, 2600, .inl (fun _ => 0))), (u11_4, .inr (4, [.ref u11_5, .ref u11_6, .ref u11_7, .int 0])), (u11_5, .inl (u11_20, 60, .inr (.inl (fun _ => 0)))), (u11_6, .inl (u11_21, 60, .inl (fun _ => 0))), (u11_7, .inl (u11_22, 60, .inl (fun _ => 0))), (u11_8, .inr (4, [.ref u11_9, .ref u11_10, .ref u11_11, .int 0])), (u11_9, .inl (u11_23, 60, .inr (.inl (fun _ => 0)))), (u11_10, .inl (u11_24, 60, .inl (fun _ => 0))), (u11_11, .inl (u11_25, 60, .inl (fun _ => 0))), (u11_12, .inr (10, [.ref u11_13, .ref u11_14, .ref u11_15, .ref u11_16, .ref u11_17, .ref q1, .int 0, .int 0, .int 0, .int 0, .int 0, .long 0])), (u11_13, .inl (u11_26, 2501, .inl (fun _ => 0))), (u11_14, .inl (u11_27, 2501, .inl (fun _ => 0))), (u11_15, .inl (u11_28, 2501, .inl (fun _ => 0))), (u11_16, .inl (u11_29, 2501, .inr (.inl (fun _ => 0)))), (u11_17, .inl (u11_30, 35, .inr (.inl u11_31))), (q12, .inr (8, [.ref u14_0, .ref q3, .int 0, .int 0, .int 0])), (u14_0, .inl (u14_1, 64, .inl (fun _ => 0)))]) hP hD [33] [0, 1, 2, 3, 4, 5, 6, 7, 8, 9, 10, 11, 12, 13, 14, 15, 16, 17, 18, 19, 20, 21, 22, 23, 24, 25, 26, 27, 28, 29, 30, 31, 32] rfl rfl (by decide) (by decide) hk1 hFc hP1 hD1 rfl
  have hK := (hK.sub (tys' := [(ny2, .int), (u5_6, .int), (u5_7, .int), (u5_8, .int), (u8_4, .int), (u8_5, .int), (u8_6, .int), (u11_18, .int), (u11_19, .int), (u11_20, .long), (u11_21, .int), (u11_22, .int), (u11_23, .long), (u11_24, .int), (u11_25, .int), (u11_26, .int), (u11_27, .int), (u11_28, .int), (u11_29, .long), (u11_30, .long)]) [0, 1, 2, 3, 4, 5, 6, 7, 8, 9, 10, 11, 12, 13, 14, 15, 16, 17, 18, 19] rfl).app hK1
  generalize H1 = H at hP hS ⊢
  have hK : va_K (dC, dI) vwCl [(ny2, .int), (u5_6, .int), (u5_7, .int), (u5_8, .int), (u8_4, .int), (u8_5, .int), (u8_6, .int), (u11_18, .int), (u11_19, .int), (u11_20, .long), (u11_21, .int), (u11_22, .int), (u11_23, .long), (u11_24, .int), (u11_25, .int), (u11_26, .int), (u11_27, .int), (u11_28, .int), (u11_29, .long), (u11_30, .long), (u14_1, .int)] s := hK
  refine W.widen (k := 34) (n := 51217) (by decide) (by decide) ?_
  refine va_putF (D := (dC, dI)) (ci := 11) (v := .ref q12) (ty := .object "NapMachine$Reader") (C := RX11) (T := TX11) (N := 7) hx hb hG inGX11 tyX11 tyX11_ok nmX11 hown hK hP hD hS 0 rfl rfl 4 (by decide) (hG _ wd_399) (fun _ h9 => h9) rfl hin rfl (by decide +kernel) rfl rfl (Nat.le_of_ble_eq_true rfl) dX11_init_66 (fun H locs hP hD hS => ?_)
  obtain ⟨hP, hD⟩ := nv_eq (ws' := [(h0, .inr (11, [.ref q1, .ref q3, .ref q6, .ref q9, .ref q12, .int x0, .int x1])), (q1, .inl (ny2, 2600, .inl (fun _ => 0))), (q3, .inr (1, [.ref u5_0, .ref u5_1, .ref u5_2, .ref u5_3])), (u5_0, .inl (u5_6, 32768, .inl (fun _ => 0))), (u5_1, .inr (7, [.int 0, .int 0, .int 0, .int 0, .int 0])), (u5_2, .inr (5, [.int 304, .int 0, .int 0, .int 0, .int 0, .int 0])), (u5_3, .inr (9, [.ref u5_4, .ref u5_5, .int 0, .int 0, .int 0, .int 0])), (u5_4, .inl (u5_7, 3, .inl (fun _ => 0))), (u5_5, .inl (u5_8, 3, .inl (fun _ => 0))), (q6, .inr (2, [.ref u8_0, .ref u8_1, .ref q3, .int 0, .int 0, .int 0, .int 0, .int 0])), (u8_0, .inl (u8_4, 16, .inl (fun _ => 0))), (u8_1, .inr (3, [.ref u8_2, .ref u8_3, .int 0])), (u8_2, .inl (u8_5, 40, .inl (fun _ => 0))), (u8_3, .inl (u8_6, 40, .inl (fun _ => 0))), (q9, .inr (0, [.ref u11_12, .ref u11_0, .ref u11_1, .ref u11_2, .ref u11_3, .ref u11_4, .ref u11_8, .int 0, .int 0, .int 0, .int 0, .int 0, .int 0, .int 0, .int 0, .int 0, .int 0])), (u11_0, .inr (6, [.int 0, .int 0, .int 0, .int 0, .int 0])), (u11_1, .inr (6, [.int 0, .int 0, .int 0, .int 0, .int 0])), (u11_2, .inl (u11_18, 2600, .inl (fun _ => 0))), (u11_3, .inl (u11_19, 2600, .inl (fun _ => 0))), (u11_4, .inr (4, [.ref u11_5, .ref u11_6, .ref u11_7, .int 0])), (u11_5, .inl (u11_20, 60, .inr (.inl (fun _ => 0)))), (u11_6, .inl (u11_21, 60, .inl (fun _ => 0))), (u11_7, .inl (u11_22, 60, .inl (fun _ => 0))), (u11_8, .inr (4, [.ref u11_9, .ref u11_10, .ref u11_11, .int 0])), (u11_9, .inl (u11_23, 60, .inr (.inl (fun _ => 0)))), (u11_10, .inl (u11_24, 60, .inl (fun _ => 0))), (u11_11, .inl (u11_25, 60, .inl (fun _ => 0))), (u11_12, .inr (10, [.ref u11_13, .ref u11_14, .ref u11_15, .ref u11_16, .ref u11_17, .ref q1, .int 0, .int 0, .int 0, .int 0, .int 0, .long 0])), (u11_13, .inl (u11_26, 2501, .inl (fun _ => 0))), (u11_14, .inl (u11_27, 2501, .inl (fun _ => 0))), (u11_15, .inl (u11_28, 2501, .inl (fun _ => 0))), (u11_16, .inl (u11_29, 2501, .inr (.inl (fun _ => 0)))), (u11_17, .inl (u11_30, 35, .inr (.inl u11_31))), (q12, .inr (8, [.ref u14_0, .ref q3, .int 0, .int 0, .int 0])), (u14_0, .inl (u14_1, 64, .inl (fun _ => 0)))]) hP hD rfl
  rw [hQ]
  obtain ⟨hP9, hD9⟩ := nv_sub2 (wc := [(h0, .inr (11, [.ref q1, .ref q3, .ref q6, .ref q9, .ref q12, .int x0, .int x1])), (q1, .inl (ny2, 2600, .inl (fun _ => 0))), (q3, .inr (1, [.ref u5_0, .ref u5_1, .ref u5_2, .ref u5_3])), (u5_0, .inl (u5_6, 32768, .inl (fun _ => 0))), (u5_1, .inr (7, [.int 0, .int 0, .int 0, .int 0, .int 0])), (u5_2, .inr (5, [.int 304, .int 0, .int 0, .int 0, .int 0, .int 0])), (u5_3, .inr (9, [.ref u5_4, .ref u5_5, .int 0, .int 0, .int 0, .int 0])), (u5_4, .inl (u5_7, 3, .inl (fun _ => 0))), (u5_5, .inl (u5_8, 3, .inl (fun _ => 0))), (q6, .inr (2, [.ref u8_0, .ref u8_1, .ref q3, .int 0, .int 0, .int 0, .int 0, .int 0])), (u8_0, .inl (u8_4, 16, .inl (fun _ => 0))), (u8_1, .inr (3, [.ref u8_2, .ref u8_3, .int 0])), (u8_2, .inl (u8_5, 40, .inl (fun _ => 0))), (u8_3, .inl (u8_6, 40, .inl (fun _ => 0))), (q9, .inr (0, [.ref u11_12, .ref u11_0, .ref u11_1, .ref u11_2, .ref u11_3, .ref u11_4, .ref u11_8, .int 0, .int 0, .int 0, .int 0, .int 0, .int 0, .int 0, .int 0, .int 0, .int 0])), (u11_0, .inr (6, [.int 0, .int 0, .int 0, .int 0, .int 0])), (u11_1, .inr (6, [.int 0, .int 0, .int 0, .int 0, .int 0])), (u11_2, .inl (u11_18, 2600, .inl (fun _ => 0))), (u11_3, .inl (u11_19, 2600, .inl (fun _ => 0))), (u11_4, .inr (4, [.ref u11_5, .ref u11_6, .ref u11_7, .int 0])), (u11_5, .inl (u11_20, 60, .inr (.inl (fun _ => 0)))), (u11_6, .inl (u11_21, 60, .inl (fun _ => 0))), (u11_7, .inl (u11_22, 60, .inl (fun _ => 0))), (u11_8, .inr (4, [.ref u11_9, .ref u11_10, .ref u11_11, .int 0])), (u11_9, .inl (u11_23, 60, .inr (.inl (fun _ => 0)))), (u11_10, .inl (u11_24, 60, .inl (fun _ => 0))), (u11_11, .inl (u11_25, 60, .inl (fun _ => 0))), (u11_12, .inr (10, [.ref u11_13, .ref u11_14, .ref u11_15, .ref u11_16, .ref u11_17, .ref q1, .int 0, .int 0, .int 0, .int 0, .int 0, .long 0])), (u11_13, .inl (u11_26, 2501, .inl (fun _ => 0))), (u11_14, .inl (u11_27, 2501, .inl (fun _ => 0))), (u11_15, .inl (u11_28, 2501, .inl (fun _ => 0))), (u11_16, .inl (u11_29, 2501, .inr (.inl (fun _ => 0)))), (u11_17, .inl (u11_30, 35, .inr (.inl u11_31))), (q12, .inr (8, [.ref u14_0, .ref q3, .int 0, .int 0, .int 0])), (u14_0, .inl (u14_1, 64, .inl (fun _ => 0)))]) hP hD [0, 1, 2, 3, 4, 5, 6, 7, 8, 9, 10, 11, 12, 13, 14, 15, 16, 17, 18, 19, 20, 21, 22, 23, 24, 25, 26, 27, 28, 29, 30, 31, 32, 33, 34] (by decide) rfl
  have hK9 := hK.sub (tys' := [(ny2, .int), (u5_6, .int), (u5_7, .int), (u5_8, .int), (u8_4, .int), (u8_5, .int), (u8_6, .int), (u11_18, .int), (u11_19, .int), (u11_20, .long), (u11_21, .int), (u11_22, .int), (u11_23, .long), (u11_24, .int), (u11_25, .int), (u11_26, .int), (u11_27, .int), (u11_28, .int), (u11_29, .long), (u11_30, .long), (u14_1, .int)]) [0, 1, 2, 3, 4, 5, 6, 7, 8, 9, 10, 11, 12, 13, 14, 15, 16, 17, 18, 19, 20] rfl
  refine W.widen (k := 34) (n := 51217) (by decide) (by decide) ?_
  exact W.vret hx hb hr (fun t ht hW => ⟨⟨(q1, q3, u5_0, u5_1, u5_2, u5_3, u5_4, u5_5, q6, u8_0, u8_1, u8_2, u8_3, q9, u11_0, u11_1, u11_2, u11_3, u11_4, u11_5, u11_6, u11_7, u11_8, u11_9, u11_10, u11_11, u11_12, u11_13, u11_14, u11_15, u11_16, u11_17, q12, u14_0, ny2, u5_6, u5_7, u5_8, u8_4, u8_5, u8_6, u11_18, u11_19, u11_20, u11_21, u11_22, u11_23, u11_24, u11_25, u11_26, u11_27, u11_28, u11_29, u11_30, u11_31, u14_1), rfl, trivial, by rw [ht]; exact hP9, va_K.moved hW.alike hK9, hD9⟩, hS.F ht⟩) hS.2.2 dX11_init_69
