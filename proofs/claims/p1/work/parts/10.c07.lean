set_option maxHeartbeats 4000000 in
set_option maxRecDepth 100000 in
theorem cX5_multiply_1 (l : Launch) (dC : Nat → ClassId) (dI : Nat → Nat → Nat) (h0 : Nat) (sz : Nat) (x0 : Int32) : Met l yX5_multiply (Cond.code yX5_multiply cX5_multiply 3 none :: lw_G) ({ frames := 0, cells := 0, slots := 0, locals := 0 }) (va_Pc [.ref h0] (fun U => U.heap.size = sz ∧ va_P (dC, dI) vwCl [(h0, .inr (5, [.int 304, .int 0, .int x0, .int 0, .int 0, .int 0]))] U.heap ∧ va_K (dC, dI) vwCl [] U ∧ va_D (fun _ => True) [(h0, .inr (5, [.int 304, .int 0, .int x0, .int 0, .int 0, .int 0]))])) (va_Qv (fun (u : Int32 × Int32) => iv u.1 0 65535 ∧ iv u.2 0 65535 ∧ True) (fun (u : Int32 × Int32) (t : State) => va_P (dC, dI) vwCl [(h0, .inr (5, [.int 304, .int 0, .int x0, .int u.1, .int u.2, .int 0]))] t.heap ∧ va_K (dC, dI) vwCl [] t ∧ va_D (va_A [(h0, .inr (5, [.int 304, .int 0, .int x0, .int 0, .int 0, .int 0]))] sz) [(h0, .inr (5, [.int 304, .int 0, .int x0, .int u.1, .int u.2, .int 0]))]) (va_A [(h0, .inr (5, [.int 304, .int 0, .int x0, .int 0, .int 0, .int 0]))] sz)) 0 0 (va_A [(h0, .inr (5, [.int 304, .int 0, .int x0, .int 0, .int 0, .int 0]))] sz) := by
  refine Met.ofW (cc := cX5_multiply) (maxL := 3) (ret := none) (by decide) rfl ?_
  intro p e s m args below meth c s₁ B hml hv
  obtain ⟨rfl, hsz, hP, hK, hD0⟩ := hv
  have hx := B.exec
  have hb := B.bytes
  have hr := B.returns
  have hts0 := atoms_spec (ws := Cond.code yX5_multiply cX5_multiply 3 none :: lw_G) B.pre
  have hG : ∀ w ∈ lw_G, w.before _ s = true := fun w h => hts0 w (List.mem_cons_of_mem _ h)
  have hown : s.vm.findClass RX5 = some m.cls := findClass_of_methodNamed B.named
  have hlocks := B.notSynchronized
  subst hsz
  have hD := hD0.self (sz := s.heap.size)
  generalize hAe : va_A [(h0, .inr (5, [.int 304, .int 0, .int x0, .int 0, .int 0, .int 0]))] s.heap.size = A at hD ⊢
  have hA : ∀ q : Nat, s.heap.size ≤ q → A q := fun q h => by rw [← hAe]; exact Or.inr h
  have hS : va_S A s.heap s.heap [] := va_S.rf
  have hP : va_P (dC, dI) vwCl [(h0, .inr (5, [.int 304, .int 0, .int x0, .int 0, .int 0, .int 0]))] s.heap := hP
  have hl := lv_entry ([.ref h0]) (n := 3) (Nat.le_of_ble_eq_true rfl)
  rw [lg_entry_eq]
  generalize (lg_sl ([.ref h0]) ++ List.replicate (3 - (lg_sl ([.ref h0])).length) Slot.unset).toArray = ls at hl ⊢
  have hl : lv_has ls 3 [(0, .ref h0)] := hl
  refine lv_aload_n hx hb dX5_multiply_0 rfl (lv_at hl 0 rfl) ?_
  refine va_get (D := (dC, dI)) (ci := 5) (v := .int 304) (C := RX5) (T := TX5) (N := 6) hx hb hG inGX5 hown hK hP 0 rfl rfl 0 (by decide) (hG _ wd_70) (fun _ h9 => h9) rfl dX5_multiply_1 ?_
  refine lv_sipush (v := 306) hx hb dX5_multiply_4 (by decide) ?_
  refine lv_icmp_ne (tgt := 43) hx hb dX5_multiply_7 (by decide) (fun _ => ?_) (fun c => absurd c (by decide))
  refine lv_aload_n hx hb dX5_multiply_43 rfl (lv_at hl 0 rfl) ?_
  refine va_get (D := (dC, dI)) (ci := 5) (v := .int 0) (C := RX5) (T := TX5) (N := 6) hx hb hG inGX5 hown hK hP 0 rfl rfl 1 (by decide) (hG _ wd_71) (fun _ h9 => h9) rfl dX5_multiply_44 ?_
  refine lv_i2l (v := _) hx hb dX5_multiply_47 rfl ?_
  refine lv_valL (y := 0) (by decide +kernel) ?_
  refine lv_aload_n hx hb dX5_multiply_48 rfl (lv_at hl 0 rfl) ?_
  refine va_get (D := (dC, dI)) (ci := 5) (v := .int x0) (C := RX5) (T := TX5) (N := 6) hx hb hG inGX5 hown hK hP 0 rfl rfl 2 (by decide) (hG _ wd_72) (fun _ h9 => h9) rfl dX5_multiply_49 ?_
  refine lv_i2l (v := _) hx hb dX5_multiply_52 rfl ?_
  refine lv_topl (fun w1 ew1 => ?_)
  refine lv_lmul hx hb dX5_multiply_53 ?_
  refine lv_topl (fun w2 ew2 => ?_)
  refine lv_lstore_n (lv' := [(1, .long w2), (0, .ref h0)]) hx hb dX5_multiply_54 rfl hl (by decide) rfl (fun ls hl => ?_)
  refine lv_aload_n hx hb dX5_multiply_55 rfl (lv_at hl 1 rfl) ?_
  refine lv_iconst (v := 0) hx hb dX5_multiply_56 (by decide) ?_
  refine va_put (D := (dC, dI)) (ci := 5) (v := .int 0) (ty := .int) (C := RX5) (T := TX5) (N := 6) hx hb hG inGX5 tyX5 tyX5_ok nmX5 hown hK hP hD hS 0 rfl rfl 5 (by decide) (hG _ wd_75) (fun _ h9 => h9) rfl (by decide +kernel) rfl rfl (Nat.le_of_ble_eq_true rfl) dX5_multiply_57 (fun H locs hP hD hS => ?_)
  have hP : va_P (dC, dI) vwCl [(h0, .inr (5, [.int 304, .int 0, .int x0, .int 0, .int 0, .int 0]))] H := hP
  have hD : va_D A [(h0, .inr (5, [.int 304, .int 0, .int x0, .int 0, .int 0, .int 0]))] := hD
  refine lv_aload_n hx hb dX5_multiply_60 rfl (lv_at hl 1 rfl) ?_
  refine va_get (D := (dC, dI)) (ci := 5) (v := .int 304) (C := RX5) (T := TX5) (N := 6) hx hb hG inGX5 hown hK hP 0 rfl rfl 0 (by decide) (hG _ wd_70) (fun _ h9 => h9) rfl dX5_multiply_61 ?_
  refine lv_sipush (v := 308) hx hb dX5_multiply_64 (by decide) ?_
  refine lv_icmp_ne (tgt := 98) hx hb dX5_multiply_67 (by decide) (fun _ => ?_) (fun c => absurd c (by decide))
  refine lv_aload_n hx hb dX5_multiply_98 rfl (lv_at hl 1 rfl) ?_
  refine lv_lload_n hx hb dX5_multiply_99 rfl (lv_at hl 0 rfl) ?_
  refine lv_l2i (v := _) hx hb dX5_multiply_100 rfl ?_
  refine lv_topi (fun v3 ev3 => ?_)
  refine lv_ldc hx hb hown (hG _ wd_758) dX5_multiply_101 ?_
  refine lv_iand hx hb dX5_multiply_103 ?_
  refine lv_topi (fun v4 ev4 => ?_)
  have iv4 : iv v4 0 65535 := iv_eq ev4 (iv_and (x := v3) (iv_w (by decide : iv 65535 65535 65535) (by decide) (by decide) : iv 65535 0 65535))
  refine va_put (D := (dC, dI)) (ci := 5) (v := .int v4) (ty := .int) (C := RX5) (T := TX5) (N := 6) hx hb hG inGX5 tyX5 tyX5_ok nmX5 hown hK hP hD hS 0 rfl rfl 3 (by decide) (hG _ wd_73) (fun _ h9 => h9) rfl (by decide +kernel) rfl rfl (Nat.le_of_ble_eq_true rfl) dX5_multiply_104 (fun H locs hP hD hS => ?_)
  have hP : va_P (dC, dI) vwCl [(h0, .inr (5, [.int 304, .int 0, .int x0, .int v4, .int 0, .int 0]))] H := hP
  have hD : va_D A [(h0, .inr (5, [.int 304, .int 0, .int x0, .int v4, .int 0, .int 0]))] := hD
  refine lv_aload_n hx hb dX5_multiply_107 rfl (lv_at hl 1 rfl) ?_
  refine lv_lload_n hx hb dX5_multiply_108 rfl (lv_at hl 0 rfl) ?_
  refine lv_bipush (v := 16) hx hb dX5_multiply_109 (by decide) ?_
  refine lv_lushr (v := _) hx hb dX5_multiply_111 rfl ?_
  refine lv_topl (fun w5 ew5 => ?_)
  refine lv_l2i (v := _) hx hb dX5_multiply_112 rfl ?_
  refine lv_topi (fun v6 ev6 => ?_)
  refine lv_ldc hx hb hown (hG _ wd_758) dX5_multiply_113 ?_
  refine lv_iand hx hb dX5_multiply_115 ?_
  refine lv_topi (fun v7 ev7 => ?_)
  have iv7 : iv v7 0 65535 := iv_eq ev7 (iv_and (x := v6) (iv_w (by decide : iv 65535 65535 65535) (by decide) (by decide) : iv 65535 0 65535))
  refine va_put (D := (dC, dI)) (ci := 5) (v := .int v7) (ty := .int) (C := RX5) (T := TX5) (N := 6) hx hb hG inGX5 tyX5 tyX5_ok nmX5 hown hK hP hD hS 0 rfl rfl 4 (by decide) (hG _ wd_74) (fun _ h9 => h9) rfl (by decide +kernel) rfl rfl (Nat.le_of_ble_eq_true rfl) dX5_multiply_116 (fun H locs hP hD hS => ?_)
  have hP : va_P (dC, dI) vwCl [(h0, .inr (5, [.int 304, .int 0, .int x0, .int v4, .int v7, .int 0]))] H := hP
  have hD : va_D A [(h0, .inr (5, [.int 304, .int 0, .int x0, .int v4, .int v7, .int 0]))] := hD
  have hP9 := hP.sub (ws' := [(h0, .inr (5, [.int 304, .int 0, .int x0, .int v4, .int v7, .int 0]))]) [0] rfl
  have hD9 := hD.sub (ws' := [(h0, .inr (5, [.int 304, .int 0, .int x0, .int v4, .int v7, .int 0]))]) [0] (by decide) rfl
  have hK9 := hK.sub (tys' := []) [] rfl
  exact W.vret hx hb hr (fun t ht hW => ⟨⟨(v4, v7), rfl, ⟨iv_w iv4 (by decide) (by decide), iv_w iv7 (by decide) (by decide), trivial⟩, by rw [ht]; exact hP9, va_K.moved hW.alike hK9, hD9⟩, hS.F ht⟩) hS.2.2 dX5_multiply_119
set_option maxHeartbeats 4000000 in
set_option maxRecDepth 100000 in
theorem cX5_writeWord_1 (l : Launch) (dC : Nat → ClassId) (dI : Nat → Nat → Nat) (h0 : Nat) (sz : Nat) (x0 x1 : Int32) (ix0 : iv x0 304 318) : Met l yX5_writeWord (Cond.code yX5_writeWord cX5_writeWord 3 none :: lw_G) ({ frames := 1, cells := 0, slots := 0, locals := 22 }) (va_Pc [.ref h0, .int x0, .int x1] (fun U => U.heap.size = sz ∧ va_P (dC, dI) vwCl [(h0, .inr (5, [.int 304, .int 0, .int 0, .int 0, .int 0, .int 0]))] U.heap ∧ va_K (dC, dI) vwCl [] U ∧ va_D (fun _ => True) [(h0, .inr (5, [.int 304, .int 0, .int 0, .int 0, .int 0, .int 0]))])) (va_Qv (fun (u : Int32 × Int32 × Int32 × Int32 × Int32) => iv u.1 304 308 ∧ True) (fun (u : Int32 × Int32 × Int32 × Int32 × Int32) (t : State) => va_P (dC, dI) vwCl [(h0, .inr (5, [.int u.1, .int u.2.1, .int u.2.2.1, .int u.2.2.2.1, .int u.2.2.2.2, .int 0]))] t.heap ∧ va_K (dC, dI) vwCl [] t ∧ va_D (va_A [(h0, .inr (5, [.int 304, .int 0, .int 0, .int 0, .int 0, .int 0]))] sz) [(h0, .inr (5, [.int u.1, .int u.2.1, .int u.2.2.1, .int u.2.2.2.1, .int u.2.2.2.2, .int 0]))]) (va_A [(h0, .inr (5, [.int 304, .int 0, .int 0, .int 0, .int 0, .int 0]))] sz)) 0 0 (va_A [(h0, .inr (5, [.int 304, .int 0, .int 0, .int 0, .int 0, .int 0]))] sz) := by
  refine Met.ofW (cc := cX5_writeWord) (maxL := 3) (ret := none) (by decide) rfl ?_
  intro p e s m args below meth c s₁ B hml hv
  obtain ⟨rfl, hsz, hP, hK, hD0⟩ := hv
  have hx := B.exec
  have hb := B.bytes
  have hr := B.returns
  have hts0 := atoms_spec (ws := Cond.code yX5_writeWord cX5_writeWord 3 none :: lw_G) B.pre
  have hG : ∀ w ∈ lw_G, w.before _ s = true := fun w h => hts0 w (List.mem_cons_of_mem _ h)
  have hown : s.vm.findClass RX5 = some m.cls := findClass_of_methodNamed B.named
  have hlocks := B.notSynchronized
  subst hsz
  have hD := hD0.self (sz := s.heap.size)
  generalize hAe : va_A [(h0, .inr (5, [.int 304, .int 0, .int 0, .int 0, .int 0, .int 0]))] s.heap.size = A at hD ⊢
  have hA : ∀ q : Nat, s.heap.size ≤ q → A q := fun q h => by rw [← hAe]; exact Or.inr h
  have hS : va_S A s.heap s.heap [] := va_S.rf
  have hP : va_P (dC, dI) vwCl [(h0, .inr (5, [.int 304, .int 0, .int 0, .int 0, .int 0, .int 0]))] s.heap := hP
  have hl := lv_entry ([.ref h0, .int x0, .int x1]) (n := 3) (Nat.le_of_ble_eq_true rfl)
  rw [lg_entry_eq]
  generalize (lg_sl ([.ref h0, .int x0, .int x1]) ++ List.replicate (3 - (lg_sl ([.ref h0, .int x0, .int x1])).length) Slot.unset).toArray = ls at hl ⊢
  have hl : lv_has ls 3 [(0, .ref h0), (1, .int x0), (2, .int x1)] := hl
  refine lv_iload_n hx hb dX5_writeWord_0 rfl (lv_at hl 1 rfl) ?_
  by_cases s1 : x0.toInt < 304 ∨ 316 < x0.toInt
  · skip
    refine lv_tableOut (tgt := 109) hx hb dX5_writeWord_1 s1 (by decide) ?_
    have hP9 := hP.sub (ws' := [(h0, .inr (5, [.int 304, .int 0, .int 0, .int 0, .int 0, .int 0]))]) [0] rfl
    have hD9 := hD.sub (ws' := [(h0, .inr (5, [.int 304, .int 0, .int 0, .int 0, .int 0, .int 0]))]) [0] (by decide) rfl
    have hK9 := hK.sub (tys' := []) [] rfl
    exact W.vret hx hb hr (fun t ht hW => ⟨⟨(304, 0, 0, 0, 0), rfl, ⟨iv_w (by decide : iv 304 304 304) (by decide) (by decide), trivial⟩, by rw [ht]; exact hP9, va_K.moved hW.alike hK9, hD9⟩, hS.F ht⟩) hS.2.2 dX5_writeWord_109
  · skip
    have s1x : x0 = 304 ∨ x0 = 305 ∨ x0 = 306 ∨ x0 = 307 ∨ x0 = 308 ∨ x0 = 309 ∨ x0 = 310 ∨ x0 = 311 ∨ x0 = 312 ∨ x0 = 313 ∨ x0 = 314 ∨ x0 = 315 ∨ x0 = 316 := by
      have := ix0
      have : x0.toInt = 304 ∨ x0.toInt = 305 ∨ x0.toInt = 306 ∨ x0.toInt = 307 ∨ x0.toInt = 308 ∨ x0.toInt = 309 ∨ x0.toInt = 310 ∨ x0.toInt = 311 ∨ x0.toInt = 312 ∨ x0.toInt = 313 ∨ x0.toInt = 314 ∨ x0.toInt = 315 ∨ x0.toInt = 316 := by omega
      rcases this with q | q | q | q | q | q | q | q | q | q | q | q | q
      · exact Or.inl (Int32.toInt_inj.mp q)
      · exact Or.inr (Or.inl (Int32.toInt_inj.mp q))
      · exact Or.inr (Or.inr (Or.inl (Int32.toInt_inj.mp q)))
      · exact Or.inr (Or.inr (Or.inr (Or.inl (Int32.toInt_inj.mp q))))
      · exact Or.inr (Or.inr (Or.inr (Or.inr (Or.inl (Int32.toInt_inj.mp q)))))
      · exact Or.inr (Or.inr (Or.inr (Or.inr (Or.inr (Or.inl (Int32.toInt_inj.mp q))))))
      · exact Or.inr (Or.inr (Or.inr (Or.inr (Or.inr (Or.inr (Or.inl (Int32.toInt_inj.mp q)))))))
      · exact Or.inr (Or.inr (Or.inr (Or.inr (Or.inr (Or.inr (Or.inr (Or.inl (Int32.toInt_inj.mp q))))))))
      · exact Or.inr (Or.inr (Or.inr (Or.inr (Or.inr (Or.inr (Or.inr (Or.inr (Or.inl (Int32.toInt_inj.mp q)))))))))
      · exact Or.inr (Or.inr (Or.inr (Or.inr (Or.inr (Or.inr (Or.inr (Or.inr (Or.inr (Or.inl (Int32.toInt_inj.mp q))))))))))
      · exact Or.inr (Or.inr (Or.inr (Or.inr (Or.inr (Or.inr (Or.inr (Or.inr (Or.inr (Or.inr (Or.inl (Int32.toInt_inj.mp q)))))))))))
      · exact Or.inr (Or.inr (Or.inr (Or.inr (Or.inr (Or.inr (Or.inr (Or.inr (Or.inr (Or.inr (Or.inr (Or.inl (Int32.toInt_inj.mp q))))))))))))
      · exact Or.inr (Or.inr (Or.inr (Or.inr (Or.inr (Or.inr (Or.inr (Or.inr (Or.inr (Or.inr (Or.inr (Or.inr ((Int32.toInt_inj.mp q)))))))))))))
    rcases s1x with rfl | rfl | rfl | rfl | rfl | rfl | rfl | rfl | rfl | rfl | rfl | rfl | rfl
    · skip
      refine lv_tableIn (off := 67) (tgt := 68) hx hb dX5_writeWord_1 (by decide) (by decide) (by decide) (by decide) ?_
      refine lv_aload_n hx hb dX5_writeWord_68 rfl (lv_at hl 0 rfl) ?_
      refine lv_iload_n hx hb dX5_writeWord_69 rfl (lv_at hl 1 rfl) ?_
      refine va_put (D := (dC, dI)) (ci := 5) (v := .int 304) (ty := .int) (C := RX5) (T := TX5) (N := 6) hx hb hG inGX5 tyX5 tyX5_ok nmX5 hown hK hP hD hS 0 rfl rfl 0 (by decide) (hG _ wd_70) (fun _ h9 => h9) rfl (by decide +kernel) rfl rfl (Nat.le_of_ble_eq_true rfl) dX5_writeWord_70 (fun H locs hP hD hS => ?_)
      have hP : va_P (dC, dI) vwCl [(h0, .inr (5, [.int 304, .int 0, .int 0, .int 0, .int 0, .int 0]))] H := hP
      have hD : va_D A [(h0, .inr (5, [.int 304, .int 0, .int 0, .int 0, .int 0, .int 0]))] := hD
      refine lv_aload_n hx hb dX5_writeWord_73 rfl (lv_at hl 0 rfl) ?_
      refine lv_iload_n hx hb dX5_writeWord_74 rfl (lv_at hl 2 rfl) ?_
      refine va_put (D := (dC, dI)) (ci := 5) (v := .int x1) (ty := .int) (C := RX5) (T := TX5) (N := 6) hx hb hG inGX5 tyX5 tyX5_ok nmX5 hown hK hP hD hS 0 rfl rfl 1 (by decide) (hG _ wd_71) (fun _ h9 => h9) rfl (by decide +kernel) rfl rfl (Nat.le_of_ble_eq_true rfl) dX5_writeWord_75 (fun H locs hP hD hS => ?_)
      have hP : va_P (dC, dI) vwCl [(h0, .inr (5, [.int 304, .int x1, .int 0, .int 0, .int 0, .int 0]))] H := hP
      have hD : va_D A [(h0, .inr (5, [.int 304, .int x1, .int 0, .int 0, .int 0, .int 0]))] := hD
      refine lv_goto (tgt := 109) hx hb dX5_writeWord_78 (by decide) ?_
      have hP9 := hP.sub (ws' := [(h0, .inr (5, [.int 304, .int x1, .int 0, .int 0, .int 0, .int 0]))]) [0] rfl
      have hD9 := hD.sub (ws' := [(h0, .inr (5, [.int 304, .int x1, .int 0, .int 0, .int 0, .int 0]))]) [0] (by decide) rfl
      have hK9 := hK.sub (tys' := []) [] rfl
      exact W.vret hx hb hr (fun t ht hW => ⟨⟨(304, x1, 0, 0, 0), rfl, ⟨iv_w (by decide : iv 304 304 304) (by decide) (by decide), trivial⟩, by rw [ht]; exact hP9, va_K.moved hW.alike hK9, hD9⟩, hS.F ht⟩) hS.2.2 dX5_writeWord_109
    · skip
      refine lv_tableIn (off := 108) (tgt := 109) hx hb dX5_writeWord_1 (by decide) (by decide) (by decide) (by decide) ?_
      have hP9 := hP.sub (ws' := [(h0, .inr (5, [.int 304, .int 0, .int 0, .int 0, .int 0, .int 0]))]) [0] rfl
      have hD9 := hD.sub (ws' := [(h0, .inr (5, [.int 304, .int 0, .int 0, .int 0, .int 0, .int 0]))]) [0] (by decide) rfl
      have hK9 := hK.sub (tys' := []) [] rfl
      exact W.vret hx hb hr (fun t ht hW => ⟨⟨(304, 0, 0, 0, 0), rfl, ⟨iv_w (by decide : iv 304 304 304) (by decide) (by decide), trivial⟩, by rw [ht]; exact hP9, va_K.moved hW.alike hK9, hD9⟩, hS.F ht⟩) hS.2.2 dX5_writeWord_109
    · skip
      refine lv_tableIn (off := 67) (tgt := 68) hx hb dX5_writeWord_1 (by decide) (by decide) (by decide) (by decide) ?_
      refine lv_aload_n hx hb dX5_writeWord_68 rfl (lv_at hl 0 rfl) ?_
      refine lv_iload_n hx hb dX5_writeWord_69 rfl (lv_at hl 1 rfl) ?_
      refine va_put (D := (dC, dI)) (ci := 5) (v := .int 306) (ty := .int) (C := RX5) (T := TX5) (N := 6) hx hb hG inGX5 tyX5 tyX5_ok nmX5 hown hK hP hD hS 0 rfl rfl 0 (by decide) (hG _ wd_70) (fun _ h9 => h9) rfl (by decide +kernel) rfl rfl (Nat.le_of_ble_eq_true rfl) dX5_writeWord_70 (fun H locs hP hD hS => ?_)
      have hP : va_P (dC, dI) vwCl [(h0, .inr (5, [.int 306, .int 0, .int 0, .int 0, .int 0, .int 0]))] H := hP
      have hD : va_D A [(h0, .inr (5, [.int 306, .int 0, .int 0, .int 0, .int 0, .int 0]))] := hD
      refine lv_aload_n hx hb dX5_writeWord_73 rfl (lv_at hl 0 rfl) ?_
      refine lv_iload_n hx hb dX5_writeWord_74 rfl (lv_at hl 2 rfl) ?_
      refine va_put (D := (dC, dI)) (ci := 5) (v := .int x1) (ty := .int) (C := RX5) (T := TX5) (N := 6) hx hb hG inGX5 tyX5 tyX5_ok nmX5 hown hK hP hD hS 0 rfl rfl 1 (by decide) (hG _ wd_71) (fun _ h9 => h9) rfl (by decide +kernel) rfl rfl (Nat.le_of_ble_eq_true rfl) dX5_writeWord_75 (fun H locs hP hD hS => ?_)
      have hP : va_P (dC, dI) vwCl [(h0, .inr (5, [.int 306, .int x1, .int 0, .int 0, .int 0, .int 0]))] H := hP
      have hD : va_D A [(h0, .inr (5, [.int 306, .int x1, .int 0, .int 0, .int 0, .int 0]))] := hD
      refine lv_goto (tgt := 109) hx hb dX5_writeWord_78 (by decide) ?_
      have hP9 := hP.sub (ws' := [(h0, .inr (5, [.int 306, .int x1, .int 0, .int 0, .int 0, .int 0]))]) [0] rfl
      have hD9 := hD.sub (ws' := [(h0, .inr (5, [.int 306, .int x1, .int 0, .int 0, .int 0, .int 0]))]) [0] (by decide) rfl
      have hK9 := hK.sub (tys' := []) [] rfl
      exact W.vret hx hb hr (fun t ht hW => ⟨⟨(306, x1, 0, 0, 0), rfl, ⟨iv_w (by decide : iv 306 306 306) (by decide) (by decide), trivial⟩, by rw [ht]; exact hP9, va_K.moved hW.alike hK9, hD9⟩, hS.F ht⟩) hS.2.2 dX5_writeWord_109
    · skip
      refine lv_tableIn (off := 108) (tgt := 109) hx hb dX5_writeWord_1 (by decide) (by decide) (by decide) (by decide) ?_
      have hP9 := hP.sub (ws' := [(h0, .inr (5, [.int 304, .int 0, .int 0, .int 0, .int 0, .int 0]))]) [0] rfl
      have hD9 := hD.sub (ws' := [(h0, .inr (5, [.int 304, .int 0, .int 0, .int 0, .int 0, .int 0]))]) [0] (by decide) rfl
      have hK9 := hK.sub (tys' := []) [] rfl
      exact W.vret hx hb hr (fun t ht hW => ⟨⟨(304, 0, 0, 0, 0), rfl, ⟨iv_w (by decide : iv 304 304 304) (by decide) (by decide), trivial⟩, by rw [ht]; exact hP9, va_K.moved hW.alike hK9, hD9⟩, hS.F ht⟩) hS.2.2 dX5_writeWord_109
    · skip
      refine lv_tableIn (off := 67) (tgt := 68) hx hb dX5_writeWord_1 (by decide) (by decide) (by decide) (by decide) ?_
      refine lv_aload_n hx hb dX5_writeWord_68 rfl (lv_at hl 0 rfl) ?_
      refine lv_iload_n hx hb dX5_writeWord_69 rfl (lv_at hl 1 rfl) ?_
      refine va_put (D := (dC, dI)) (ci := 5) (v := .int 308) (ty := .int) (C := RX5) (T := TX5) (N := 6) hx hb hG inGX5 tyX5 tyX5_ok nmX5 hown hK hP hD hS 0 rfl rfl 0 (by decide) (hG _ wd_70) (fun _ h9 => h9) rfl (by decide +kernel) rfl rfl (Nat.le_of_ble_eq_true rfl) dX5_writeWord_70 (fun H locs hP hD hS => ?_)
      have hP : va_P (dC, dI) vwCl [(h0, .inr (5, [.int 308, .int 0, .int 0, .int 0, .int 0, .int 0]))] H := hP
      have hD : va_D A [(h0, .inr (5, [.int 308, .int 0, .int 0, .int 0, .int 0, .int 0]))] := hD
      refine lv_aload_n hx hb dX5_writeWord_73 rfl (lv_at hl 0 rfl) ?_
      refine lv_iload_n hx hb dX5_writeWord_74 rfl (lv_at hl 2 rfl) ?_
      refine va_put (D := (dC, dI)) (ci := 5) (v := .int x1) (ty := .int) (C := RX5) (T := TX5) (N := 6) hx hb hG inGX5 tyX5 tyX5_ok nmX5 hown hK hP hD hS 0 rfl rfl 1 (by decide) (hG _ wd_71) (fun _ h9 => h9) rfl (by decide +kernel) rfl rfl (Nat.le_of_ble_eq_true rfl) dX5_writeWord_75 (fun H locs hP hD hS => ?_)
      have hP : va_P (dC, dI) vwCl [(h0, .inr (5, [.int 308, .int x1, .int 0, .int 0, .int 0, .int 0]))] H := hP
      have hD : va_D A [(h0, .inr (5, [.int 308, .int x1, .int 0, .int 0, .int 0, .int 0]))] := hD
      refine lv_goto (tgt := 109) hx hb dX5_writeWord_78 (by decide) ?_
      have hP9 := hP.sub (ws' := [(h0, .inr (5, [.int 308, .int x1, .int 0, .int 0, .int 0, .int 0]))]) [0] rfl
      have hD9 := hD.sub (ws' := [(h0, .inr (5, [.int 308, .int x1, .int 0, .int 0, .int 0, .int 0]))]) [0] (by decide) rfl
      have hK9 := hK.sub (tys' := []) [] rfl
      exact W.vret hx hb hr (fun t ht hW => ⟨⟨(308, x1, 0, 0, 0), rfl, ⟨iv_w (by decide : iv 308 308 308) (by decide) (by decide), trivial⟩, by rw [ht]; exact hP9, va_K.moved hW.alike hK9, hD9⟩, hS.F ht⟩) hS.2.2 dX5_writeWord_109
    · skip
      refine lv_tableIn (off := 108) (tgt := 109) hx hb dX5_writeWord_1 (by decide) (by decide) (by decide) (by decide) ?_
      have hP9 := hP.sub (ws' := [(h0, .inr (5, [.int 304, .int 0, .int 0, .int 0, .int 0, .int 0]))]) [0] rfl
      have hD9 := hD.sub (ws' := [(h0, .inr (5, [.int 304, .int 0, .int 0, .int 0, .int 0, .int 0]))]) [0] (by decide) rfl
      have hK9 := hK.sub (tys' := []) [] rfl
      exact W.vret hx hb hr (fun t ht hW => ⟨⟨(304, 0, 0, 0, 0), rfl, ⟨iv_w (by decide : iv 304 304 304) (by decide) (by decide), trivial⟩, by rw [ht]; exact hP9, va_K.moved hW.alike hK9, hD9⟩, hS.F ht⟩) hS.2.2 dX5_writeWord_109
    · skip
      refine lv_tableIn (off := 108) (tgt := 109) hx hb dX5_writeWord_1 (by decide) (by decide) (by decide) (by decide) ?_
      have hP9 := hP.sub (ws' := [(h0, .inr (5, [.int 304, .int 0, .int 0, .int 0, .int 0, .int 0]))]) [0] rfl
      have hD9 := hD.sub (ws' := [(h0, .inr (5, [.int 304, .int 0, .int 0, .int 0, .int 0, .int 0]))]) [0] (by decide) rfl
      have hK9 := hK.sub (tys' := []) [] rfl
      exact W.vret hx hb hr (fun t ht hW => ⟨⟨(304, 0, 0, 0, 0), rfl, ⟨iv_w (by decide : iv 304 304 304) (by decide) (by decide), trivial⟩, by rw [ht]; exact hP9, va_K.moved hW.alike hK9, hD9⟩, hS.F ht⟩) hS.2.2 dX5_writeWord_109
    · skip
      refine lv_tableIn (off := 108) (tgt := 109) hx hb dX5_writeWord_1 (by decide) (by decide) (by decide) (by decide) ?_
      have hP9 := hP.sub (ws' := [(h0, .inr (5, [.int 304, .int 0, .int 0, .int 0, .int 0, .int 0]))]) [0] rfl
      have hD9 := hD.sub (ws' := [(h0, .inr (5, [.int 304, .int 0, .int 0, .int 0, .int 0, .int 0]))]) [0] (by decide) rfl
      have hK9 := hK.sub (tys' := []) [] rfl
      exact W.vret hx hb hr (fun t ht hW => ⟨⟨(304, 0, 0, 0, 0), rfl, ⟨iv_w (by decide : iv 304 304 304) (by decide) (by decide), trivial⟩, by rw [ht]; exact hP9, va_K.moved hW.alike hK9, hD9⟩, hS.F ht⟩) hS.2.2 dX5_writeWord_109
    · skip
      refine lv_tableIn (off := 80) (tgt := 81) hx hb dX5_writeWord_1 (by decide) (by decide) (by decide) (by decide) ?_
      refine lv_aload_n hx hb dX5_writeWord_81 rfl (lv_at hl 0 rfl) ?_
      refine lv_iload_n hx hb dX5_writeWord_82 rfl (lv_at hl 2 rfl) ?_
      refine va_put (D := (dC, dI)) (ci := 5) (v := .int x1) (ty := .int) (C := RX5) (T := TX5) (N := 6) hx hb hG inGX5 tyX5 tyX5_ok nmX5 hown hK hP hD hS 0 rfl rfl 2 (by decide) (hG _ wd_72) (fun _ h9 => h9) rfl (by decide +kernel) rfl rfl (Nat.le_of_ble_eq_true rfl) dX5_writeWord_83 (fun H locs hP hD hS => ?_)
      have hP : va_P (dC, dI) vwCl [(h0, .inr (5, [.int 304, .int 0, .int x1, .int 0, .int 0, .int 0]))] H := hP
      have hD : va_D A [(h0, .inr (5, [.int 304, .int 0, .int x1, .int 0, .int 0, .int 0]))] := hD
      refine lv_aload_n hx hb dX5_writeWord_86 rfl (lv_at hl 0 rfl) ?_
      have hPc := hP.sub (ws' := [(h0, .inr (5, [.int 304, .int 0, .int x1, .int 0, .int 0, .int 0]))]) [0] rfl
      have hDc := hD.sub (ws' := [(h0, .inr (5, [.int 304, .int 0, .int x1, .int 0, .int 0, .int 0]))]) [0] (by decide) rfl
      have hKc := hK.sub (tys' := []) [] rfl
      have hFc := va_free (wc := [(h0, .inr (5, [.int 304, .int 0, .int x1, .int 0, .int 0, .int 0]))]) hD hS hA [0] rfl
      refine va_callv (va_runV (As := []) (rest := []) ⟨hx, hb, hml, hown, hG⟩ (cX5_multiply_1 l dC dI h0 H.size x1) (cwV 0 hG (gV wd_754 wd_756 wp_29 wd_4 wd_757) rfl rfl rfl (by decide +kernel) ⟨Nat.le_of_ble_eq_true rfl, Nat.le_of_ble_eq_true rfl⟩) ⟨fun a U g mk q => by obtain ⟨q0, q1, qP, qK, qD⟩ := q; exact ⟨q0, q1, qP, va_K.moved (u := U) (U := U.calling g mk a) (Vm.Alike.refl U.vm) qK, qD⟩, va_recv hKc hPc (ci := 5) (q0 := 0) rfl rfl, fun U hU hW => ⟨rfl, by rw [hU], by rw [hU]; exact hPc, va_K.moved hW.alike hKc, hDc.weaken (fun _ _ _ _ => trivial)⟩⟩ rfl rfl hl.1 rfl (lv_room (Nat.le_of_ble_eq_true rfl)) dX5_writeWord_87 ⟨by decide, by decide⟩) hS (fun q _ h => hFc q h) hFc (fun u3 t H1 locs ht hvm hw hB hz1 hk1 hS => ?_)
      obtain ⟨u3_0, u3_1⟩ := u3
      have hw : iv u3_0 0 65535 ∧ iv u3_1 0 65535 ∧ True := hw
      obtain ⟨iu3_0, iu3_1, -⟩ := hw
      obtain ⟨hP1, hK1, hD1⟩ := hB
      rw [ht] at hP1
      have hK1 := va_K.moved hvm.symm hK1
      obtain ⟨hP, hD⟩ := va_join (wr := []) (w1 := [(h0, .inr (5, [.int 304, .int 0, .int x1, .int u3_0, .int u3_1, .int 0]))]) hP hD [0] [] rfl rfl (by decide) (by decide) hk1 hFc hP1 hD1
      have hK := (hK.sub (tys' := []) [] rfl).app hK1
      generalize H1 = H at hP hS ⊢
      have hP : va_P (dC, dI) vwCl [(h0, .inr (5, [.int 304, .int 0, .int x1, .int u3_0, .int u3_1, .int 0]))] H := hP
      have hD : va_D A [(h0, .inr (5, [.int 304, .int 0, .int x1, .int u3_0, .int u3_1, .int 0]))] := hD
      have hK : va_K (dC, dI) vwCl [] s := hK
      refine lv_goto (tgt := 109) hx hb dX5_writeWord_90 (by decide) ?_
      have hP9 := hP.sub (ws' := [(h0, .inr (5, [.int 304, .int 0, .int x1, .int u3_0, .int u3_1, .int 0]))]) [0] rfl
      have hD9 := hD.sub (ws' := [(h0, .inr (5, [.int 304, .int 0, .int x1, .int u3_0, .int u3_1, .int 0]))]) [0] (by decide) rfl
      have hK9 := hK.sub (tys' := []) [] rfl
      exact W.vret hx hb hr (fun t ht hW => ⟨⟨(304, 0, x1, u3_0, u3_1), rfl, ⟨iv_w (by decide : iv 304 304 304) (by decide) (by decide), trivial⟩, by rw [ht]; exact hP9, va_K.moved hW.alike hK9, hD9⟩, hS.F ht⟩) hS.2.2 dX5_writeWord_109
    · skip
      refine lv_tableIn (off := 108) (tgt := 109) hx hb dX5_writeWord_1 (by decide) (by decide) (by decide) (by decide) ?_
      have hP9 := hP.sub (ws' := [(h0, .inr (5, [.int 304, .int 0, .int 0, .int 0, .int 0, .int 0]))]) [0] rfl
      have hD9 := hD.sub (ws' := [(h0, .inr (5, [.int 304, .int 0, .int 0, .int 0, .int 0, .int 0]))]) [0] (by decide) rfl
      have hK9 := hK.sub (tys' := []) [] rfl
      exact W.vret hx hb hr (fun t ht hW => ⟨⟨(304, 0, 0, 0, 0), rfl, ⟨iv_w (by decide : iv 304 304 304) (by decide) (by decide), trivial⟩, by rw [ht]; exact hP9, va_K.moved hW.alike hK9, hD9⟩, hS.F ht⟩) hS.2.2 dX5_writeWord_109
    · skip
      refine lv_tableIn (off := 92) (tgt := 93) hx hb dX5_writeWord_1 (by decide) (by decide) (by decide) (by decide) ?_
      refine lv_aload_n hx hb dX5_writeWord_93 rfl (lv_at hl 0 rfl) ?_
      refine lv_iload_n hx hb dX5_writeWord_94 rfl (lv_at hl 2 rfl) ?_
      refine va_put (D := (dC, dI)) (ci := 5) (v := .int x1) (ty := .int) (C := RX5) (T := TX5) (N := 6) hx hb hG inGX5 tyX5 tyX5_ok nmX5 hown hK hP hD hS 0 rfl rfl 3 (by decide) (hG _ wd_73) (fun _ h9 => h9) rfl (by decide +kernel) rfl rfl (Nat.le_of_ble_eq_true rfl) dX5_writeWord_95 (fun H locs hP hD hS => ?_)
      have hP : va_P (dC, dI) vwCl [(h0, .inr (5, [.int 304, .int 0, .int 0, .int x1, .int 0, .int 0]))] H := hP
      have hD : va_D A [(h0, .inr (5, [.int 304, .int 0, .int 0, .int x1, .int 0, .int 0]))] := hD
      refine lv_goto (tgt := 109) hx hb dX5_writeWord_98 (by decide) ?_
      have hP9 := hP.sub (ws' := [(h0, .inr (5, [.int 304, .int 0, .int 0, .int x1, .int 0, .int 0]))]) [0] rfl
      have hD9 := hD.sub (ws' := [(h0, .inr (5, [.int 304, .int 0, .int 0, .int x1, .int 0, .int 0]))]) [0] (by decide) rfl
      have hK9 := hK.sub (tys' := []) [] rfl
      exact W.vret hx hb hr (fun t ht hW => ⟨⟨(304, 0, 0, x1, 0), rfl, ⟨iv_w (by decide : iv 304 304 304) (by decide) (by decide), trivial⟩, by rw [ht]; exact hP9, va_K.moved hW.alike hK9, hD9⟩, hS.F ht⟩) hS.2.2 dX5_writeWord_109
    · skip
      refine lv_tableIn (off := 108) (tgt := 109) hx hb dX5_writeWord_1 (by decide) (by decide) (by decide) (by decide) ?_
      have hP9 := hP.sub (ws' := [(h0, .inr (5, [.int 304, .int 0, .int 0, .int 0, .int 0, .int 0]))]) [0] rfl
      have hD9 := hD.sub (ws' := [(h0, .inr (5, [.int 304, .int 0, .int 0, .int 0, .int 0, .int 0]))]) [0] (by decide) rfl
      have hK9 := hK.sub (tys' := []) [] rfl
      exact W.vret hx hb hr (fun t ht hW => ⟨⟨(304, 0, 0, 0, 0), rfl, ⟨iv_w (by decide : iv 304 304 304) (by decide) (by decide), trivial⟩, by rw [ht]; exact hP9, va_K.moved hW.alike hK9, hD9⟩, hS.F ht⟩) hS.2.2 dX5_writeWord_109
    · skip
      refine lv_tableIn (off := 100) (tgt := 101) hx hb dX5_writeWord_1 (by decide) (by decide) (by decide) (by decide) ?_
      refine lv_aload_n hx hb dX5_writeWord_101 rfl (lv_at hl 0 rfl) ?_
      refine lv_iload_n hx hb dX5_writeWord_102 rfl (lv_at hl 2 rfl) ?_
      refine va_put (D := (dC, dI)) (ci := 5) (v := .int x1) (ty := .int) (C := RX5) (T := TX5) (N := 6) hx hb hG inGX5 tyX5 tyX5_ok nmX5 hown hK hP hD hS 0 rfl rfl 4 (by decide) (hG _ wd_74) (fun _ h9 => h9) rfl (by decide +kernel) rfl rfl (Nat.le_of_ble_eq_true rfl) dX5_writeWord_103 (fun H locs hP hD hS => ?_)
      have hP : va_P (dC, dI) vwCl [(h0, .inr (5, [.int 304, .int 0, .int 0, .int 0, .int x1, .int 0]))] H := hP
      have hD : va_D A [(h0, .inr (5, [.int 304, .int 0, .int 0, .int 0, .int x1, .int 0]))] := hD
      refine lv_goto (tgt := 109) hx hb dX5_writeWord_106 (by decide) ?_
      have hP9 := hP.sub (ws' := [(h0, .inr (5, [.int 304, .int 0, .int 0, .int 0, .int x1, .int 0]))]) [0] rfl
      have hD9 := hD.sub (ws' := [(h0, .inr (5, [.int 304, .int 0, .int 0, .int 0, .int x1, .int 0]))]) [0] (by decide) rfl
      have hK9 := hK.sub (tys' := []) [] rfl
      exact W.vret hx hb hr (fun t ht hW => ⟨⟨(304, 0, 0, 0, x1), rfl, ⟨iv_w (by decide : iv 304 304 304) (by decide) (by decide), trivial⟩, by rw [ht]; exact hP9, va_K.moved hW.alike hK9, hD9⟩, hS.F ht⟩) hS.2.2 dX5_writeWord_109
set_option maxHeartbeats 4000000 in
set_option maxRecDepth 100000 in
theorem cX9_takeVector_1 (l : Launch) (dC : Nat → ClassId) (dI : Nat → Nat → Nat) (h0 h1 h2 : Nat) (y0 : ClassId) (sz : Nat) : Met l yX9_takeVector (Cond.code yX9_takeVector cX9_takeVector 2 (some .int) :: lw_G) ({ frames := 1, cells := 0, slots := 0, locals := 20 }) (va_Pc [.ref h0] (fun U => U.heap.size = sz ∧ va_P (dC, dI) vwCl [(h0, .inr (9, [.ref h1, .ref h2, .int 0, .int 0, .int 0, .int 0])), (h1, .inl (y0, 3, .inl (fun _ => 0)))] U.heap ∧ va_K (dC, dI) vwCl [(y0, .int)] U ∧ va_D (fun _ => True) [(h0, .inr (9, [.ref h1, .ref h2, .int 0, .int 0, .int 0, .int 0])), (h1, .inl (y0, 3, .inl (fun _ => 0)))])) (va_Qi (fun (r : Int32) (u : Unit) => r = 0 ∧ True) (fun (u : Unit) (t : State) => va_P (dC, dI) vwCl [(h0, .inr (9, [.ref h1, .ref h2, .int 0, .int 0, .int 0, .int 0])), (h1, .inl (y0, 3, .inl (fun _ => 0)))] t.heap ∧ va_K (dC, dI) vwCl [(y0, .int)] t ∧ va_D (va_A [(h0, .inr (9, [.ref h1, .ref h2, .int 0, .int 0, .int 0, .int 0])), (h1, .inl (y0, 3, .inl (fun _ => 0)))] sz) [(h0, .inr (9, [.ref h1, .ref h2, .int 0, .int 0, .int 0, .int 0])), (h1, .inl (y0, 3, .inl (fun _ => 0)))]) (va_A [(h0, .inr (9, [.ref h1, .ref h2, .int 0, .int 0, .int 0, .int 0])), (h1, .inl (y0, 3, .inl (fun _ => 0)))] sz)) 0 0 (va_A [(h0, .inr (9, [.ref h1, .ref h2, .int 0, .int 0, .int 0, .int 0])), (h1, .inl (y0, 3, .inl (fun _ => 0)))] sz) := by
  refine Met.ofW (cc := cX9_takeVector) (maxL := 2) (ret := (some .int)) (by decide) rfl ?_
  intro p e s m args below meth c s₁ B hml hv
  obtain ⟨rfl, hsz, hP, hK, hD0⟩ := hv
  have hx := B.exec
  have hb := B.bytes
  have hr := B.returns
  have hts0 := atoms_spec (ws := Cond.code yX9_takeVector cX9_takeVector 2 (some .int) :: lw_G) B.pre
  have hG : ∀ w ∈ lw_G, w.before _ s = true := fun w h => hts0 w (List.mem_cons_of_mem _ h)
  have hown : s.vm.findClass RX9 = some m.cls := findClass_of_methodNamed B.named
  have hlocks := B.notSynchronized
  subst hsz
  have hD := hD0.self (sz := s.heap.size)
  generalize hAe : va_A [(h0, .inr (9, [.ref h1, .ref h2, .int 0, .int 0, .int 0, .int 0])), (h1, .inl (y0, 3, .inl (fun _ => 0)))] s.heap.size = A at hD ⊢
  have hA : ∀ q : Nat, s.heap.size ≤ q → A q := fun q h => by rw [← hAe]; exact Or.inr h
  have hS : va_S A s.heap s.heap [] := va_S.rf
  have hP : va_P (dC, dI) vwCl [(h0, .inr (9, [.ref h1, .ref h2, .int 0, .int 0, .int 0, .int 0])), (h1, .inl (y0, 3, .inl (fun _ => 0)))] s.heap := hP
  have hl := lv_entry ([.ref h0]) (n := 2) (Nat.le_of_ble_eq_true rfl)
  rw [lg_entry_eq]
  generalize (lg_sl ([.ref h0]) ++ List.replicate (2 - (lg_sl ([.ref h0])).length) Slot.unset).toArray = ls at hl ⊢
  have hl : lv_has ls 2 [(0, .ref h0)] := hl
  refine lv_aload_n hx hb dX9_takeVector_0 rfl (lv_at hl 0 rfl) ?_
  have hPc := hP.sub (ws' := [(h0, .inr (9, [.ref h1, .ref h2, .int 0, .int 0, .int 0, .int 0])), (h1, .inl (y0, 3, .inl (fun _ => 0)))]) [0, 1] rfl
  have hDc := hD.sub (ws' := [(h0, .inr (9, [.ref h1, .ref h2, .int 0, .int 0, .int 0, .int 0])), (h1, .inl (y0, 3, .inl (fun _ => 0)))]) [0, 1] (by decide) rfl
  have hKc := hK.sub (tys' := [(y0, .int)]) [0] rfl
  have hFc := va_free (wc := [(h0, .inr (9, [.ref h1, .ref h2, .int 0, .int 0, .int 0, .int 0])), (h1, .inl (y0, 3, .inl (fun _ => 0)))]) hD hS hA [0, 1] rfl
  refine va_calli (va_runV (As := []) (rest := []) ⟨hx, hb, hml, hown, hG⟩ (cX9_vector_1 l dC dI h0 h1 h2 y0 s.heap.size) (cwV 0 hG (gV wd_749 wd_729 wd_730 wd_5 wd_731) rfl rfl rfl (by decide +kernel) ⟨Nat.le_of_ble_eq_true rfl, Nat.le_of_ble_eq_true rfl⟩) ⟨fun a U g mk q => by obtain ⟨q0, q1, qP, qK, qD⟩ := q; exact ⟨q0, q1, qP, va_K.moved (u := U) (U := U.calling g mk a) (Vm.Alike.refl U.vm) qK, qD⟩, va_recv hKc hPc (ci := 9) (q0 := 0) rfl rfl, fun U hU hW => ⟨rfl, by rw [hU], by rw [hU]; exact hPc, va_K.moved hW.alike hKc, hDc.weaken (fun _ _ _ _ => trivial)⟩⟩ rfl rfl hl.1 rfl (lv_room (Nat.le_of_ble_eq_true rfl)) dX9_takeVector_1 ⟨by decide, by decide⟩) hS (fun q _ h => hFc q h) hFc (fun r1 u2 t H1 locs ht hvm hw hB hz1 hk1 hS => ?_)
  have hw : r1 = 0 ∧ True := hw
  obtain ⟨er1, -⟩ := hw
  obtain ⟨hP1, hK1, hD1⟩ := hB
  rw [ht] at hP1
  have hK1 := va_K.moved hvm.symm hK1
  obtain ⟨hP, hD⟩ := va_join (wr := []) (w1 := [(h0, .inr (9, [.ref h1, .ref h2, .int 0, .int 0, .int 0, .int 0])), (h1, .inl (y0, 3, .inl (fun _ => 0)))]) hP hD [0, 1] [] rfl rfl (by decide) (by decide) hk1 hFc hP1 hD1
  have hK := (hK.sub (tys' := []) [] rfl).app hK1
  generalize H1 = H at hP hS ⊢
  have hP : va_P (dC, dI) vwCl [(h0, .inr (9, [.ref h1, .ref h2, .int 0, .int 0, .int 0, .int 0])), (h1, .inl (y0, 3, .inl (fun _ => 0)))] H := hP
  have hD : va_D A [(h0, .inr (9, [.ref h1, .ref h2, .int 0, .int 0, .int 0, .int 0])), (h1, .inl (y0, 3, .inl (fun _ => 0)))] := hD
  have hK : va_K (dC, dI) vwCl [(y0, .int)] s := hK
  subst er1
  refine lv_istore_n (lv' := [(1, .int 0), (0, .ref h0)]) hx hb dX9_takeVector_4 rfl hl (by decide) rfl (fun ls hl => ?_)
  refine lv_iload_n hx hb dX9_takeVector_5 rfl (lv_at hl 0 rfl) ?_
  refine lv_iconst (v := 2) hx hb dX9_takeVector_6 (by decide) ?_
  refine lv_icmp_ne (tgt := 24) hx hb dX9_takeVector_7 (by decide) (fun _ => ?_) (fun c => absurd c (by decide))
  refine lv_iload_n hx hb dX9_takeVector_24 rfl (lv_at hl 0 rfl) ?_
  refine lv_iconst (v := 4) hx hb dX9_takeVector_25 (by decide) ?_
  refine lv_icmp_ne (tgt := 43) hx hb dX9_takeVector_26 (by decide) (fun _ => ?_) (fun c => absurd c (by decide))
  refine lv_iload_n hx hb dX9_takeVector_43 rfl (lv_at hl 0 rfl) ?_
  refine lv_bipush (v := 10) hx hb dX9_takeVector_44 (by decide) ?_
  refine lv_icmp_ne (tgt := 60) hx hb dX9_takeVector_46 (by decide) (fun _ => ?_) (fun c => absurd c (by decide))
  refine lv_iload_n hx hb dX9_takeVector_60 rfl (lv_at hl 0 rfl) ?_
  have hP9 := hP.sub (ws' := [(h0, .inr (9, [.ref h1, .ref h2, .int 0, .int 0, .int 0, .int 0])), (h1, .inl (y0, 3, .inl (fun _ => 0)))]) [0, 1] rfl
  have hD9 := hD.sub (ws' := [(h0, .inr (9, [.ref h1, .ref h2, .int 0, .int 0, .int 0, .int 0])), (h1, .inl (y0, 3, .inl (fun _ => 0)))]) [0, 1] (by decide) rfl
  have hK9 := hK.sub (tys' := [(y0, .int)]) [0] rfl
  exact W.iret (v := 0) hx hb hr (fun t ht hW => ⟨⟨0, (), rfl, ⟨rfl, trivial⟩, by rw [ht]; exact hP9, va_K.moved hW.alike hK9, hD9⟩, hS.F ht⟩) hS.2.2 dX9_takeVector_61
set_option maxHeartbeats 4000000 in
set_option maxRecDepth 100000 in
theorem cX1_writeThing_1 (l : Launch) (dC : Nat → ClassId) (dI : Nat → Nat → Nat) (h0 h1 h2 h3 h4 h5 h6 : Nat) (y0 y1 : ClassId) (sz : Nat) (x0 x1 : Int32) (ix0 : iv x0 0 511) : Met l yX1_writeThing (Cond.code yX1_writeThing cX1_writeThing 3 none :: lw_G) ({ frames := 2, cells := 0, slots := 0, locals := 44 }) (va_Pc [.ref h0, .int x0, .int x1] (fun U => U.heap.size = sz ∧ va_P (dC, dI) vwCl [(h0, .inr (1, [.ref h1, .ref h2, .ref h3, .ref h4])), (h4, .inr (9, [.ref h5, .ref h6, .int 0, .int 0, .int 0, .int 0])), (h6, .inl (y0, 3, .inl (fun _ => 0))), (h5, .inl (y1, 3, .inl (fun _ => 0))), (h3, .inr (5, [.int 304, .int 0, .int 0, .int 0, .int 0, .int 0]))] U.heap ∧ va_K (dC, dI) vwCl [(y0, .int), (y1, .int)] U ∧ va_D (fun _ => True) [(h0, .inr (1, [.ref h1, .ref h2, .ref h3, .ref h4])), (h4, .inr (9, [.ref h5, .ref h6, .int 0, .int 0, .int 0, .int 0])), (h6, .inl (y0, 3, .inl (fun _ => 0))), (h5, .inl (y1, 3, .inl (fun _ => 0))), (h3, .inr (5, [.int 304, .int 0, .int 0, .int 0, .int 0, .int 0]))])) (va_Qv (fun (u : Int32 × Int32 × (Nat → Int32) × (Nat → Int32) × Int32 × Int32 × Int32 × Int32 × Int32) => iv u.1 0 65531 ∧ (∀ j, iv (u.2.2.2.1 j) 0 17) ∧ iv u.2.2.2.2.1 304 308 ∧ True) (fun (u : Int32 × Int32 × (Nat → Int32) × (Nat → Int32) × Int32 × Int32 × Int32 × Int32 × Int32) (t : State) => va_P (dC, dI) vwCl [(h0, .inr (1, [.ref h1, .ref h2, .ref h3, .ref h4])), (h4, .inr (9, [.ref h5, .ref h6, .int u.1, .int u.2.1, .int 0, .int 0])), (h6, .inl (y0, 3, .inl u.2.2.1)), (h5, .inl (y1, 3, .inl u.2.2.2.1)), (h3, .inr (5, [.int u.2.2.2.2.1, .int u.2.2.2.2.2.1, .int u.2.2.2.2.2.2.1, .int u.2.2.2.2.2.2.2.1, .int u.2.2.2.2.2.2.2.2, .int 0]))] t.heap ∧ va_K (dC, dI) vwCl [(y0, .int), (y1, .int)] t ∧ va_D (va_A [(h0, .inr (1, [.ref h1, .ref h2, .ref h3, .ref h4])), (h4, .inr (9, [.ref h5, .ref h6, .int 0, .int 0, .int 0, .int 0])), (h6, .inl (y0, 3, .inl (fun _ => 0))), (h5, .inl (y1, 3, .inl (fun _ => 0))), (h3, .inr (5, [.int 304, .int 0, .int 0, .int 0, .int 0, .int 0]))] sz) [(h0, .inr (1, [.ref h1, .ref h2, .ref h3, .ref h4])), (h4, .inr (9, [.ref h5, .ref h6, .int u.1, .int u.2.1, .int 0, .int 0])), (h6, .inl (y0, 3, .inl u.2.2.1)), (h5, .inl (y1, 3, .inl u.2.2.2.1)), (h3, .inr (5, [.int u.2.2.2.2.1, .int u.2.2.2.2.2.1, .int u.2.2.2.2.2.2.1, .int u.2.2.2.2.2.2.2.1, .int u.2.2.2.2.2.2.2.2, .int 0]))]) (va_A [(h0, .inr (1, [.ref h1, .ref h2, .ref h3, .ref h4])), (h4, .inr (9, [.ref h5, .ref h6, .int 0, .int 0, .int 0, .int 0])), (h6, .inl (y0, 3, .inl (fun _ => 0))), (h5, .inl (y1, 3, .inl (fun _ => 0))), (h3, .inr (5, [.int 304, .int 0, .int 0, .int 0, .int 0, .int 0]))] sz)) 0 0 (va_A [(h0, .inr (1, [.ref h1, .ref h2, .ref h3, .ref h4])), (h4, .inr (9, [.ref h5, .ref h6, .int 0, .int 0, .int 0, .int 0])), (h6, .inl (y0, 3, .inl (fun _ => 0))), (h5, .inl (y1, 3, .inl (fun _ => 0))), (h3, .inr (5, [.int 304, .int 0, .int 0, .int 0, .int 0, .int 0]))] sz) := by
  refine Met.ofW (cc := cX1_writeThing) (maxL := 3) (ret := none) (by decide) rfl ?_
  intro p e s m args below meth c s₁ B hml hv
  obtain ⟨rfl, hsz, hP, hK, hD0⟩ := hv
  have hx := B.exec
  have hb := B.bytes
  have hr := B.returns
  have hts0 := atoms_spec (ws := Cond.code yX1_writeThing cX1_writeThing 3 none :: lw_G) B.pre
  have hG : ∀ w ∈ lw_G, w.before _ s = true := fun w h => hts0 w (List.mem_cons_of_mem _ h)
  have hown : s.vm.findClass RX1 = some m.cls := findClass_of_methodNamed B.named
  have hlocks := B.notSynchronized
  subst hsz
  have hD := hD0.self (sz := s.heap.size)
  generalize hAe : va_A [(h0, .inr (1, [.ref h1, .ref h2, .ref h3, .ref h4])), (h4, .inr (9, [.ref h5, .ref h6, .int 0, .int 0, .int 0, .int 0])), (h6, .inl (y0, 3, .inl (fun _ => 0))), (h5, .inl (y1, 3, .inl (fun _ => 0))), (h3, .inr (5, [.int 304, .int 0, .int 0, .int 0, .int 0, .int 0]))] s.heap.size = A at hD ⊢
  have hA : ∀ q : Nat, s.heap.size ≤ q → A q := fun q h => by rw [← hAe]; exact Or.inr h
  have hS : va_S A s.heap s.heap [] := va_S.rf
  have hP : va_P (dC, dI) vwCl [(h0, .inr (1, [.ref h1, .ref h2, .ref h3, .ref h4])), (h4, .inr (9, [.ref h5, .ref h6, .int 0, .int 0, .int 0, .int 0])), (h6, .inl (y0, 3, .inl (fun _ => 0))), (h5, .inl (y1, 3, .inl (fun _ => 0))), (h3, .inr (5, [.int 304, .int 0, .int 0, .int 0, .int 0, .int 0]))] s.heap := hP
  have hl := lv_entry ([.ref h0, .int x0, .int x1]) (n := 3) (Nat.le_of_ble_eq_true rfl)
  rw [lg_entry_eq]
  generalize (lg_sl ([.ref h0, .int x0, .int x1]) ++ List.replicate (3 - (lg_sl ([.ref h0, .int x0, .int x1])).length) Slot.unset).toArray = ls at hl ⊢
  have hl : lv_has ls 3 [(0, .ref h0), (1, .int x0), (2, .int x1)] := hl
  refine lv_iload_n hx hb dX1_writeThing_0 rfl (lv_at hl 1 rfl) ?_
  refine lv_sipush (v := 302) hx hb dX1_writeThing_1 (by decide) ?_
  refine lv_icmp_ne (tgt := 18) hx hb dX1_writeThing_4 (by decide) (fun c1 => ?_) (fun c1 => ?_)
  · skip
    refine lv_iload_n hx hb dX1_writeThing_18 rfl (lv_at hl 1 rfl) ?_
    refine lv_sipush (v := 304) hx hb dX1_writeThing_19 (by decide) ?_
    refine lv_icmp_lt (tgt := 44) hx hb dX1_writeThing_22 (by decide) (fun c2 => ?_) (fun c2 => ?_)
    · skip
      have j3 : iv x0 0 303 := iv_ltL ix0 (by decide : iv 304 304 304) c2 (by decide)
      refine lv_aload_n hx hb dX1_writeThing_44 rfl (lv_at hl 0 rfl) ?_
      refine va_get (D := (dC, dI)) (ci := 1) (v := .ref h4) (C := RX1) (T := TX1) (N := 4) hx hb hG inGX1 hown hK hP 0 rfl rfl 3 (by decide) (hG _ wd_117) (fun _ h9 => h9) rfl dX1_writeThing_45 ?_
      refine lv_iload_n hx hb dX1_writeThing_48 rfl (lv_at hl 1 rfl) ?_
      refine lv_iload_n hx hb dX1_writeThing_49 rfl (lv_at hl 2 rfl) ?_
      have hPc := hP.sub (ws' := [(h4, .inr (9, [.ref h5, .ref h6, .int 0, .int 0, .int 0, .int 0]))]) [1] rfl
      have hDc := hD.sub (ws' := [(h4, .inr (9, [.ref h5, .ref h6, .int 0, .int 0, .int 0, .int 0]))]) [1] (by decide) rfl
      have hKc := hK.sub (tys' := []) [] rfl
      have hFc := va_free (wc := [(h4, .inr (9, [.ref h5, .ref h6, .int 0, .int 0, .int 0, .int 0]))]) hD hS hA [1] rfl
      refine va_callv (va_runV (As := [.int x0, .int x1]) (rest := []) ⟨hx, hb, hml, hown, hG⟩ (cX9_writeWord_1 l dC dI h4 h5 h6 s.heap.size x0 x1 j3) (cwV 2 hG (gV wd_759 wd_760 wd_761 wd_5 wd_762) rfl rfl rfl (by decide +kernel) ⟨Nat.le_of_ble_eq_true rfl, Nat.le_of_ble_eq_true rfl⟩) ⟨fun a U g mk q => by obtain ⟨q0, q1, qP, qK, qD⟩ := q; exact ⟨q0, q1, qP, va_K.moved (u := U) (U := U.calling g mk a) (Vm.Alike.refl U.vm) qK, qD⟩, va_recv hKc hPc (ci := 9) (q0 := 0) rfl rfl, fun U hU hW => ⟨rfl, by rw [hU], by rw [hU]; exact hPc, va_K.moved hW.alike hKc, hDc.weaken (fun _ _ _ _ => trivial)⟩⟩ rfl rfl hl.1 rfl (lv_room (Nat.le_of_ble_eq_true rfl)) dX1_writeThing_50 ⟨by decide, by decide⟩) hS (fun q _ h => hFc q h) hFc (fun u5 t H1 locs ht hvm hw hB hz1 hk1 hS => ?_)
      obtain ⟨hP1, hK1, hD1⟩ := hB
      rw [ht] at hP1
      have hK1 := va_K.moved hvm.symm hK1
      obtain ⟨hP, hD⟩ := va_join (wr := [(h0, .inr (1, [.ref h1, .ref h2, .ref h3, .ref h4])), (h6, .inl (y0, 3, .inl (fun _ => 0))), (h5, .inl (y1, 3, .inl (fun _ => 0))), (h3, .inr (5, [.int 304, .int 0, .int 0, .int 0, .int 0, .int 0]))]) (w1 := [(h4, .inr (9, [.ref h5, .ref h6, .int 0, .int 0, .int 0, .int 0]))]) hP hD [1] [0, 2, 3, 4] rfl rfl (by decide) (by decide) hk1 hFc hP1 hD1
      have hK := (hK.sub (tys' := [(y0, .int), (y1, .int)]) [0, 1] rfl).app hK1
      generalize H1 = H at hP hS ⊢
      have hP : va_P (dC, dI) vwCl [(h0, .inr (1, [.ref h1, .ref h2, .ref h3, .ref h4])), (h6, .inl (y0, 3, .inl (fun _ => 0))), (h5, .inl (y1, 3, .inl (fun _ => 0))), (h3, .inr (5, [.int 304, .int 0, .int 0, .int 0, .int 0, .int 0])), (h4, .inr (9, [.ref h5, .ref h6, .int 0, .int 0, .int 0, .int 0]))] H := hP
      have hD : va_D A [(h0, .inr (1, [.ref h1, .ref h2, .ref h3, .ref h4])), (h6, .inl (y0, 3, .inl (fun _ => 0))), (h5, .inl (y1, 3, .inl (fun _ => 0))), (h3, .inr (5, [.int 304, .int 0, .int 0, .int 0, .int 0, .int 0])), (h4, .inr (9, [.ref h5, .ref h6, .int 0, .int 0, .int 0, .int 0]))] := hD
      have hK : va_K (dC, dI) vwCl [(y0, .int), (y1, .int)] s := hK
      have hP9 := hP.sub (ws' := [(h0, .inr (1, [.ref h1, .ref h2, .ref h3, .ref h4])), (h4, .inr (9, [.ref h5, .ref h6, .int 0, .int 0, .int 0, .int 0])), (h6, .inl (y0, 3, .inl (fun _ => 0))), (h5, .inl (y1, 3, .inl (fun _ => 0))), (h3, .inr (5, [.int 304, .int 0, .int 0, .int 0, .int 0, .int 0]))]) [0, 4, 1, 2, 3] rfl
      have hD9 := hD.sub (ws' := [(h0, .inr (1, [.ref h1, .ref h2, .ref h3, .ref h4])), (h4, .inr (9, [.ref h5, .ref h6, .int 0, .int 0, .int 0, .int 0])), (h6, .inl (y0, 3, .inl (fun _ => 0))), (h5, .inl (y1, 3, .inl (fun _ => 0))), (h3, .inr (5, [.int 304, .int 0, .int 0, .int 0, .int 0, .int 0]))]) [0, 4, 1, 2, 3] (by decide) rfl
      have hK9 := hK.sub (tys' := [(y0, .int), (y1, .int)]) [0, 1] rfl
      exact W.vret hx hb hr (fun t ht hW => ⟨⟨(0, 0, (fun _ => 0), (fun _ => 0), 304, 0, 0, 0, 0), rfl, ⟨iv_w (by decide : iv 0 0 0) (by decide) (by decide), (fun _ => (by decide : iv 0 0 17)), iv_w (by decide : iv 304 304 304) (by decide) (by decide), trivial⟩, by rw [ht]; exact hP9, va_K.moved hW.alike hK9, hD9⟩, hS.F ht⟩) hS.2.2 dX1_writeThing_53
    · skip
      have j6 : iv x0 304 511 := iv_nltL ix0 (by decide : iv 304 304 304) c2 (by decide)
      refine lv_iload_n hx hb dX1_writeThing_25 rfl (lv_at hl 1 rfl) ?_
      refine lv_sipush (v := 318) hx hb dX1_writeThing_26 (by decide) ?_
      refine lv_icmp_gt (tgt := 44) hx hb dX1_writeThing_29 (by decide) (fun c7 => ?_) (fun c7 => ?_)
      · skip
        have j8 : iv x0 319 511 := iv_ltR (by decide : iv 318 318 318) j6 c7 (by decide)
        refine lv_aload_n hx hb dX1_writeThing_44 rfl (lv_at hl 0 rfl) ?_
        refine va_get (D := (dC, dI)) (ci := 1) (v := .ref h4) (C := RX1) (T := TX1) (N := 4) hx hb hG inGX1 hown hK hP 0 rfl rfl 3 (by decide) (hG _ wd_117) (fun _ h9 => h9) rfl dX1_writeThing_45 ?_
        refine lv_iload_n hx hb dX1_writeThing_48 rfl (lv_at hl 1 rfl) ?_
        refine lv_iload_n hx hb dX1_writeThing_49 rfl (lv_at hl 2 rfl) ?_
        have hPc := hP.sub (ws' := [(h4, .inr (9, [.ref h5, .ref h6, .int 0, .int 0, .int 0, .int 0])), (h6, .inl (y0, 3, .inl (fun _ => 0))), (h5, .inl (y1, 3, .inl (fun _ => 0)))]) [1, 2, 3] rfl
        have hDc := hD.sub (ws' := [(h4, .inr (9, [.ref h5, .ref h6, .int 0, .int 0, .int 0, .int 0])), (h6, .inl (y0, 3, .inl (fun _ => 0))), (h5, .inl (y1, 3, .inl (fun _ => 0)))]) [1, 2, 3] (by decide) rfl
        have hKc := hK.sub (tys' := [(y0, .int), (y1, .int)]) [0, 1] rfl
        have hFc := va_free (wc := [(h4, .inr (9, [.ref h5, .ref h6, .int 0, .int 0, .int 0, .int 0])), (h6, .inl (y0, 3, .inl (fun _ => 0))), (h5, .inl (y1, 3, .inl (fun _ => 0)))]) hD hS hA [1, 2, 3] rfl
        refine va_callv (va_runV (As := [.int x0, .int x1]) (rest := []) ⟨hx, hb, hml, hown, hG⟩ (cX9_writeWord_2 l dC dI h4 h5 h6 y0 y1 s.heap.size x0 x1 j8) (cwV 2 hG (gV wd_759 wd_760 wd_761 wd_5 wd_762) rfl rfl rfl (by decide +kernel) ⟨Nat.le_of_ble_eq_true rfl, Nat.le_of_ble_eq_true rfl⟩) ⟨fun a U g mk q => by obtain ⟨q0, q1, qP, qK, qD⟩ := q; exact ⟨q0, q1, qP, va_K.moved (u := U) (U := U.calling g mk a) (Vm.Alike.refl U.vm) qK, qD⟩, va_recv hKc hPc (ci := 9) (q0 := 0) rfl rfl, fun U hU hW => ⟨rfl, by rw [hU], by rw [hU]; exact hPc, va_K.moved hW.alike hKc, hDc.weaken (fun _ _ _ _ => trivial)⟩⟩ rfl rfl hl.1 rfl (lv_room (Nat.le_of_ble_eq_true rfl)) dX1_writeThing_50 ⟨by decide, by decide⟩) hS (fun q _ h => hFc q h) hFc (fun u10 t H1 locs ht hvm hw hB hz1 hk1 hS => ?_)
        obtain ⟨u10_0, u10_1, u10_2, u10_3⟩ := u10
        have hw : iv u10_0 0 65531 ∧ (∀ j, iv (u10_3 j) 0 17) ∧ True := hw
        obtain ⟨iu10_0, iu10_3, -⟩ := hw
        obtain ⟨hP1, hK1, hD1⟩ := hB
        rw [ht] at hP1
        have hK1 := va_K.moved hvm.symm hK1
        obtain ⟨hP, hD⟩ := va_join (wr := [(h0, .inr (1, [.ref h1, .ref h2, .ref h3, .ref h4])), (h3, .inr (5, [.int 304, .int 0, .int 0, .int 0, .int 0, .int 0]))]) (w1 := [(h4, .inr (9, [.ref h5, .ref h6, .int u10_0, .int u10_1, .int 0, .int 0])), (h6, .inl (y0, 3, .inl u10_2)), (h5, .inl (y1, 3, .inl u10_3))]) hP hD [1, 2, 3] [0, 4] rfl rfl (by decide) (by decide) hk1 hFc hP1 hD1
        have hK := (hK.sub (tys' := []) [] rfl).app hK1
        generalize H1 = H at hP hS ⊢
        have hP : va_P (dC, dI) vwCl [(h0, .inr (1, [.ref h1, .ref h2, .ref h3, .ref h4])), (h3, .inr (5, [.int 304, .int 0, .int 0, .int 0, .int 0, .int 0])), (h4, .inr (9, [.ref h5, .ref h6, .int u10_0, .int u10_1, .int 0, .int 0])), (h6, .inl (y0, 3, .inl u10_2)), (h5, .inl (y1, 3, .inl u10_3))] H := hP
        have hD : va_D A [(h0, .inr (1, [.ref h1, .ref h2, .ref h3, .ref h4])), (h3, .inr (5, [.int 304, .int 0, .int 0, .int 0, .int 0, .int 0])), (h4, .inr (9, [.ref h5, .ref h6, .int u10_0, .int u10_1, .int 0, .int 0])), (h6, .inl (y0, 3, .inl u10_2)), (h5, .inl (y1, 3, .inl u10_3))] := hD
        have hK : va_K (dC, dI) vwCl [(y0, .int), (y1, .int)] s := hK
        have hP9 := hP.sub (ws' := [(h0, .inr (1, [.ref h1, .ref h2, .ref h3, .ref h4])), (h4, .inr (9, [.ref h5, .ref h6, .int u10_0, .int u10_1, .int 0, .int 0])), (h6, .inl (y0, 3, .inl u10_2)), (h5, .inl (y1, 3, .inl u10_3)), (h3, .inr (5, [.int 304, .int 0, .int 0, .int 0, .int 0, .int 0]))]) [0, 2, 3, 4, 1] rfl
        have hD9 := hD.sub (ws' := [(h0, .inr (1, [.ref h1, .ref h2, .ref h3, .ref h4])), (h4, .inr (9, [.ref h5, .ref h6, .int u10_0, .int u10_1, .int 0, .int 0])), (h6, .inl (y0, 3, .inl u10_2)), (h5, .inl (y1, 3, .inl u10_3)), (h3, .inr (5, [.int 304, .int 0, .int 0, .int 0, .int 0, .int 0]))]) [0, 2, 3, 4, 1] (by decide) rfl
        have hK9 := hK.sub (tys' := [(y0, .int), (y1, .int)]) [0, 1] rfl
        exact W.vret hx hb hr (fun t ht hW => ⟨⟨(u10_0, u10_1, u10_2, u10_3, 304, 0, 0, 0, 0), rfl, ⟨iv_w iu10_0 (by decide) (by decide), (fun j => iv_w (iu10_3 j) (by decide) (by decide)), iv_w (by decide : iv 304 304 304) (by decide) (by decide), trivial⟩, by rw [ht]; exact hP9, va_K.moved hW.alike hK9, hD9⟩, hS.F ht⟩) hS.2.2 dX1_writeThing_53
      · skip
        have j11 : iv x0 304 318 := iv_nltR (by decide : iv 318 318 318) j6 c7 (by decide)
        refine lv_aload_n hx hb dX1_writeThing_32 rfl (lv_at hl 0 rfl) ?_
        refine va_get (D := (dC, dI)) (ci := 1) (v := .ref h3) (C := RX1) (T := TX1) (N := 4) hx hb hG inGX1 hown hK hP 0 rfl rfl 2 (by decide) (hG _ wd_116) (fun _ h9 => h9) rfl dX1_writeThing_33 ?_
        refine lv_iload_n hx hb dX1_writeThing_36 rfl (lv_at hl 1 rfl) ?_
        refine lv_iload_n hx hb dX1_writeThing_37 rfl (lv_at hl 2 rfl) ?_
        have hPc := hP.sub (ws' := [(h3, .inr (5, [.int 304, .int 0, .int 0, .int 0, .int 0, .int 0]))]) [4] rfl
        have hDc := hD.sub (ws' := [(h3, .inr (5, [.int 304, .int 0, .int 0, .int 0, .int 0, .int 0]))]) [4] (by decide) rfl
        have hKc := hK.sub (tys' := []) [] rfl
        have hFc := va_free (wc := [(h3, .inr (5, [.int 304, .int 0, .int 0, .int 0, .int 0, .int 0]))]) hD hS hA [4] rfl
        refine va_callv (va_runV (As := [.int x0, .int x1]) (rest := []) ⟨hx, hb, hml, hown, hG⟩ (cX5_writeWord_1 l dC dI h3 s.heap.size x0 x1 j11) (cwV 2 hG (gV wd_750 wd_751 wd_752 wd_4 wd_753) rfl rfl rfl (by decide +kernel) ⟨Nat.le_of_ble_eq_true rfl, Nat.le_of_ble_eq_true rfl⟩) ⟨fun a U g mk q => by obtain ⟨q0, q1, qP, qK, qD⟩ := q; exact ⟨q0, q1, qP, va_K.moved (u := U) (U := U.calling g mk a) (Vm.Alike.refl U.vm) qK, qD⟩, va_recv hKc hPc (ci := 5) (q0 := 0) rfl rfl, fun U hU hW => ⟨rfl, by rw [hU], by rw [hU]; exact hPc, va_K.moved hW.alike hKc, hDc.weaken (fun _ _ _ _ => trivial)⟩⟩ rfl rfl hl.1 rfl (lv_room (Nat.le_of_ble_eq_true rfl)) dX1_writeThing_38 ⟨by decide, by decide⟩) hS (fun q _ h => hFc q h) hFc (fun u13 t H1 locs ht hvm hw hB hz1 hk1 hS => ?_)
        obtain ⟨u13_0, u13_1, u13_2, u13_3, u13_4⟩ := u13
        have hw : iv u13_0 304 308 ∧ True := hw
        obtain ⟨iu13_0, -⟩ := hw
        obtain ⟨hP1, hK1, hD1⟩ := hB
        rw [ht] at hP1
        have hK1 := va_K.moved hvm.symm hK1
        obtain ⟨hP, hD⟩ := va_join (wr := [(h0, .inr (1, [.ref h1, .ref h2, .ref h3, .ref h4])), (h4, .inr (9, [.ref h5, .ref h6, .int 0, .int 0, .int 0, .int 0])), (h6, .inl (y0, 3, .inl (fun _ => 0))), (h5, .inl (y1, 3, .inl (fun _ => 0)))]) (w1 := [(h3, .inr (5, [.int u13_0, .int u13_1, .int u13_2, .int u13_3, .int u13_4, .int 0]))]) hP hD [4] [0, 1, 2, 3] rfl rfl (by decide) (by decide) hk1 hFc hP1 hD1
        have hK := (hK.sub (tys' := [(y0, .int), (y1, .int)]) [0, 1] rfl).app hK1
        generalize H1 = H at hP hS ⊢
        have hP : va_P (dC, dI) vwCl [(h0, .inr (1, [.ref h1, .ref h2, .ref h3, .ref h4])), (h4, .inr (9, [.ref h5, .ref h6, .int 0, .int 0, .int 0, .int 0])), (h6, .inl (y0, 3, .inl (fun _ => 0))), (h5, .inl (y1, 3, .inl (fun _ => 0))), (h3, .inr (5, [.int u13_0, .int u13_1, .int u13_2, .int u13_3, .int u13_4, .int 0]))] H := hP
        have hD : va_D A [(h0, .inr (1, [.ref h1, .ref h2, .ref h3, .ref h4])), (h4, .inr (9, [.ref h5, .ref h6, .int 0, .int 0, .int 0, .int 0])), (h6, .inl (y0, 3, .inl (fun _ => 0))), (h5, .inl (y1, 3, .inl (fun _ => 0))), (h3, .inr (5, [.int u13_0, .int u13_1, .int u13_2, .int u13_3, .int u13_4, .int 0]))] := hD
        have hK : va_K (dC, dI) vwCl [(y0, .int), (y1, .int)] s := hK
        refine lv_goto (tgt := 53) hx hb dX1_writeThing_41 (by decide) ?_
        have hP9 := hP.sub (ws' := [(h0, .inr (1, [.ref h1, .ref h2, .ref h3, .ref h4])), (h4, .inr (9, [.ref h5, .ref h6, .int 0, .int 0, .int 0, .int 0])), (h6, .inl (y0, 3, .inl (fun _ => 0))), (h5, .inl (y1, 3, .inl (fun _ => 0))), (h3, .inr (5, [.int u13_0, .int u13_1, .int u13_2, .int u13_3, .int u13_4, .int 0]))]) [0, 1, 2, 3, 4] rfl
        have hD9 := hD.sub (ws' := [(h0, .inr (1, [.ref h1, .ref h2, .ref h3, .ref h4])), (h4, .inr (9, [.ref h5, .ref h6, .int 0, .int 0, .int 0, .int 0])), (h6, .inl (y0, 3, .inl (fun _ => 0))), (h5, .inl (y1, 3, .inl (fun _ => 0))), (h3, .inr (5, [.int u13_0, .int u13_1, .int u13_2, .int u13_3, .int u13_4, .int 0]))]) [0, 1, 2, 3, 4] (by decide) rfl
        have hK9 := hK.sub (tys' := [(y0, .int), (y1, .int)]) [0, 1] rfl
        exact W.vret hx hb hr (fun t ht hW => ⟨⟨(0, 0, (fun _ => 0), (fun _ => 0), u13_0, u13_1, u13_2, u13_3, u13_4), rfl, ⟨iv_w (by decide : iv 0 0 0) (by decide) (by decide), (fun _ => (by decide : iv 0 0 17)), iv_w iu13_0 (by decide) (by decide), trivial⟩, by rw [ht]; exact hP9, va_K.moved hW.alike hK9, hD9⟩, hS.F ht⟩) hS.2.2 dX1_writeThing_53
  · skip
    subst c1
    refine lv_aload_n hx hb dX1_writeThing_7 rfl (lv_at hl 0 rfl) ?_
    refine va_get (D := (dC, dI)) (ci := 1) (v := .ref h4) (C := RX1) (T := TX1) (N := 4) hx hb hG inGX1 hown hK hP 0 rfl rfl 3 (by decide) (hG _ wd_117) (fun _ h9 => h9) rfl dX1_writeThing_8 ?_
    have hPc := hP.sub (ws' := [(h4, .inr (9, [.ref h5, .ref h6, .int 0, .int 0, .int 0, .int 0])), (h5, .inl (y1, 3, .inl (fun _ => 0)))]) [1, 3] rfl
    have hDc := hD.sub (ws' := [(h4, .inr (9, [.ref h5, .ref h6, .int 0, .int 0, .int 0, .int 0])), (h5, .inl (y1, 3, .inl (fun _ => 0)))]) [1, 3] (by decide) rfl
    have hKc := hK.sub (tys' := [(y1, .int)]) [1] rfl
    have hFc := va_free (wc := [(h4, .inr (9, [.ref h5, .ref h6, .int 0, .int 0, .int 0, .int 0])), (h5, .inl (y1, 3, .inl (fun _ => 0)))]) hD hS hA [1, 3] rfl
    refine va_calli (va_runV (As := []) (rest := []) ⟨hx, hb, hml, hown, hG⟩ (cX9_takeVector_1 l dC dI h4 h5 h6 y1 s.heap.size) (cwV 0 hG (gV wd_745 wd_746 wd_747 wd_5 wd_748) rfl rfl rfl (by decide +kernel) ⟨Nat.le_of_ble_eq_true rfl, Nat.le_of_ble_eq_true rfl⟩) ⟨fun a U g mk q => by obtain ⟨q0, q1, qP, qK, qD⟩ := q; exact ⟨q0, q1, qP, va_K.moved (u := U) (U := U.calling g mk a) (Vm.Alike.refl U.vm) qK, qD⟩, va_recv hKc hPc (ci := 9) (q0 := 0) rfl rfl, fun U hU hW => ⟨rfl, by rw [hU], by rw [hU]; exact hPc, va_K.moved hW.alike hKc, hDc.weaken (fun _ _ _ _ => trivial)⟩⟩ rfl rfl hl.1 rfl (lv_room (Nat.le_of_ble_eq_true rfl)) dX1_writeThing_11 ⟨by decide, by decide⟩) hS (fun q _ h => hFc q h) hFc (fun r14 u15 t H1 locs ht hvm hw hB hz1 hk1 hS => ?_)
    have hw : r14 = 0 ∧ True := hw
    obtain ⟨er14, -⟩ := hw
    obtain ⟨hP1, hK1, hD1⟩ := hB
    rw [ht] at hP1
    have hK1 := va_K.moved hvm.symm hK1
    obtain ⟨hP, hD⟩ := va_join (wr := [(h0, .inr (1, [.ref h1, .ref h2, .ref h3, .ref h4])), (h6, .inl (y0, 3, .inl (fun _ => 0))), (h3, .inr (5, [.int 304, .int 0, .int 0, .int 0, .int 0, .int 0]))]) (w1 := [(h4, .inr (9, [.ref h5, .ref h6, .int 0, .int 0, .int 0, .int 0])), (h5, .inl (y1, 3, .inl (fun _ => 0)))]) hP hD [1, 3] [0, 2, 4] rfl rfl (by decide) (by decide) hk1 hFc hP1 hD1
    have hK := (hK.sub (tys' := [(y0, .int)]) [0] rfl).app hK1
    generalize H1 = H at hP hS ⊢
    have hP : va_P (dC, dI) vwCl [(h0, .inr (1, [.ref h1, .ref h2, .ref h3, .ref h4])), (h6, .inl (y0, 3, .inl (fun _ => 0))), (h3, .inr (5, [.int 304, .int 0, .int 0, .int 0, .int 0, .int 0])), (h4, .inr (9, [.ref h5, .ref h6, .int 0, .int 0, .int 0, .int 0])), (h5, .inl (y1, 3, .inl (fun _ => 0)))] H := hP
    have hD : va_D A [(h0, .inr (1, [.ref h1, .ref h2, .ref h3, .ref h4])), (h6, .inl (y0, 3, .inl (fun _ => 0))), (h3, .inr (5, [.int 304, .int 0, .int 0, .int 0, .int 0, .int 0])), (h4, .inr (9, [.ref h5, .ref h6, .int 0, .int 0, .int 0, .int 0])), (h5, .inl (y1, 3, .inl (fun _ => 0)))] := hD
    have hK : va_K (dC, dI) vwCl [(y0, .int), (y1, .int)] s := hK
    subst er14
    refine lv_pop hx hb dX1_writeThing_14 rfl ?_
    refine lv_goto (tgt := 53) hx hb dX1_writeThing_15 (by decide) ?_
    have hP9 := hP.sub (ws' := [(h0, .inr (1, [.ref h1, .ref h2, .ref h3, .ref h4])), (h4, .inr (9, [.ref h5, .ref h6, .int 0, .int 0, .int 0, .int 0])), (h6, .inl (y0, 3, .inl (fun _ => 0))), (h5, .inl (y1, 3, .inl (fun _ => 0))), (h3, .inr (5, [.int 304, .int 0, .int 0, .int 0, .int 0, .int 0]))]) [0, 3, 1, 4, 2] rfl
    have hD9 := hD.sub (ws' := [(h0, .inr (1, [.ref h1, .ref h2, .ref h3, .ref h4])), (h4, .inr (9, [.ref h5, .ref h6, .int 0, .int 0, .int 0, .int 0])), (h6, .inl (y0, 3, .inl (fun _ => 0))), (h5, .inl (y1, 3, .inl (fun _ => 0))), (h3, .inr (5, [.int 304, .int 0, .int 0, .int 0, .int 0, .int 0]))]) [0, 3, 1, 4, 2] (by decide) rfl
    have hK9 := hK.sub (tys' := [(y0, .int), (y1, .int)]) [0, 1] rfl
    exact W.vret hx hb hr (fun t ht hW => ⟨⟨(0, 0, (fun _ => 0), (fun _ => 0), 304, 0, 0, 0, 0), rfl, ⟨iv_w (by decide : iv 0 0 0) (by decide) (by decide), (fun _ => (by decide : iv 0 0 17)), iv_w (by decide : iv 304 304 304) (by decide) (by decide), trivial⟩, by rw [ht]; exact hP9, va_K.moved hW.alike hK9, hD9⟩, hS.F ht⟩) hS.2.2 dX1_writeThing_53
set_option maxHeartbeats 4000000 in
set_option maxRecDepth 100000 in
theorem cX9_writeWord_3 (l : Launch) (dC : Nat → ClassId) (dI : Nat → Nat → Nat) (h0 h1 h2 : Nat) (sz : Nat) (x0 x1 : Int32) (ix0 : iv x0 0 303) (ix1 : iv x1 0 255) : Met l yX9_writeWord (Cond.code yX9_writeWord cX9_writeWord 3 none :: lw_G) ({ frames := 0, cells := 0, slots := 0, locals := 0 }) (va_Pc [.ref h0, .int x0, .int x1] (fun U => U.heap.size = sz ∧ va_P (dC, dI) vwCl [(h0, .inr (9, [.ref h1, .ref h2, .int 0, .int 0, .int 0, .int 0]))] U.heap ∧ va_K (dC, dI) vwCl [] U ∧ va_D (fun _ => True) [(h0, .inr (9, [.ref h1, .ref h2, .int 0, .int 0, .int 0, .int 0]))])) (va_Qv (fun (u : Unit) => True) (fun (u : Unit) (t : State) => va_P (dC, dI) vwCl [(h0, .inr (9, [.ref h1, .ref h2, .int 0, .int 0, .int 0, .int 0]))] t.heap ∧ va_K (dC, dI) vwCl [] t ∧ va_D (va_A [(h0, .inr (9, [.ref h1, .ref h2, .int 0, .int 0, .int 0, .int 0]))] sz) [(h0, .inr (9, [.ref h1, .ref h2, .int 0, .int 0, .int 0, .int 0]))]) (va_A [(h0, .inr (9, [.ref h1, .ref h2, .int 0, .int 0, .int 0, .int 0]))] sz)) 0 0 (va_A [(h0, .inr (9, [.ref h1, .ref h2, .int 0, .int 0, .int 0, .int 0]))] sz) := by
  refine Met.ofW (cc := cX9_writeWord) (maxL := 3) (ret := none) (by decide) rfl ?_
  intro p e s m args below meth c s₁ B hml hv
  obtain ⟨rfl, hsz, hP, hK, hD0⟩ := hv
  have hx := B.exec
  have hb := B.bytes
  have hr := B.returns
  have hts0 := atoms_spec (ws := Cond.code yX9_writeWord cX9_writeWord 3 none :: lw_G) B.pre
  have hG : ∀ w ∈ lw_G, w.before _ s = true := fun w h => hts0 w (List.mem_cons_of_mem _ h)
  have hown : s.vm.findClass RX9 = some m.cls := findClass_of_methodNamed B.named
  have hlocks := B.notSynchronized
  subst hsz
  have hD := hD0.self (sz := s.heap.size)
  generalize hAe : va_A [(h0, .inr (9, [.ref h1, .ref h2, .int 0, .int 0, .int 0, .int 0]))] s.heap.size = A at hD ⊢
  have hA : ∀ q : Nat, s.heap.size ≤ q → A q := fun q h => by rw [← hAe]; exact Or.inr h
  have hS : va_S A s.heap s.heap [] := va_S.rf
  have hP : va_P (dC, dI) vwCl [(h0, .inr (9, [.ref h1, .ref h2, .int 0, .int 0, .int 0, .int 0]))] s.heap := hP
  have hl := lv_entry ([.ref h0, .int x0, .int x1]) (n := 3) (Nat.le_of_ble_eq_true rfl)
  rw [lg_entry_eq]
  generalize (lg_sl ([.ref h0, .int x0, .int x1]) ++ List.replicate (3 - (lg_sl ([.ref h0, .int x0, .int x1])).length) Slot.unset).toArray = ls at hl ⊢
  have hl : lv_has ls 3 [(0, .ref h0), (1, .int x0), (2, .int x1)] := hl
  refine lv_iload_n hx hb dX9_writeWord_0 rfl (lv_at hl 1 rfl) ?_
  refine lv_sipush (v := 352) hx hb dX9_writeWord_1 (by decide) ?_
  refine lv_icmp_ne (tgt := 28) hx hb dX9_writeWord_4 (by decide) (fun _ => ?_) (fun c => absurd c (iv_ne ix0 (by decide : iv 352 352 352) (by decide)))
  refine lv_iload_n hx hb dX9_writeWord_28 rfl (lv_at hl 1 rfl) ?_
  refine lv_sipush (v := 354) hx hb dX9_writeWord_29 (by decide) ?_
  refine lv_icmp_lt (tgt := 61) hx hb dX9_writeWord_32 (by decide) (fun _ => ?_) (fun c => absurd (iv_lt ix0 (by decide : iv 354 354 354) (by decide)) c)
  refine lv_iload_n hx hb dX9_writeWord_61 rfl (lv_at hl 1 rfl) ?_
  refine lv_sipush (v := 368) hx hb dX9_writeWord_62 (by decide) ?_
  refine lv_icmp_ne (tgt := 76) hx hb dX9_writeWord_65 (by decide) (fun _ => ?_) (fun c => absurd c (iv_ne ix0 (by decide : iv 368 368 368) (by decide)))
  refine lv_iload_n hx hb dX9_writeWord_76 rfl (lv_at hl 1 rfl) ?_
  refine lv_sipush (v := 370) hx hb dX9_writeWord_77 (by decide) ?_
  refine lv_icmp_lt (tgt := 103) hx hb dX9_writeWord_80 (by decide) (fun _ => ?_) (fun c => absurd (iv_lt ix0 (by decide : iv 370 370 370) (by decide)) c)
  have hP9 := hP.sub (ws' := [(h0, .inr (9, [.ref h1, .ref h2, .int 0, .int 0, .int 0, .int 0]))]) [0] rfl
  have hD9 := hD.sub (ws' := [(h0, .inr (9, [.ref h1, .ref h2, .int 0, .int 0, .int 0, .int 0]))]) [0] (by decide) rfl
  have hK9 := hK.sub (tys' := []) [] rfl
  exact W.vret hx hb hr (fun t ht hW => ⟨⟨(), rfl, trivial, by rw [ht]; exact hP9, va_K.moved hW.alike hK9, hD9⟩, hS.F ht⟩) hS.2.2 dX9_writeWord_103
set_option maxHeartbeats 4000000 in
set_option maxRecDepth 100000 in
theorem cX9_startAnew_3 (l : Launch) (dC : Nat → ClassId) (dI : Nat → Nat → Nat) (h0 h1 h2 : Nat) (sz : Nat) (x0 : Int32) (ix0 : iv x0 0 255) : Met l yX9_startAnew (Cond.code yX9_startAnew cX9_startAnew 1 none :: lw_G) ({ frames := 0, cells := 0, slots := 0, locals := 0 }) (va_Pc [.ref h0] (fun U => U.heap.size = sz ∧ va_P (dC, dI) vwCl [(h0, .inr (9, [.ref h1, .ref h2, .int x0, .int 0, .int 0, .int 0]))] U.heap ∧ va_K (dC, dI) vwCl [] U ∧ va_D (fun _ => True) [(h0, .inr (9, [.ref h1, .ref h2, .int x0, .int 0, .int 0, .int 0]))])) (va_Qv (fun (u : Unit) => True) (fun (u : Unit) (t : State) => va_P (dC, dI) vwCl [(h0, .inr (9, [.ref h1, .ref h2, .int x0, .int 0, .int 0, .int 0]))] t.heap ∧ va_K (dC, dI) vwCl [] t ∧ va_D (va_A [(h0, .inr (9, [.ref h1, .ref h2, .int x0, .int 0, .int 0, .int 0]))] sz) [(h0, .inr (9, [.ref h1, .ref h2, .int x0, .int 0, .int 0, .int 0]))]) (va_A [(h0, .inr (9, [.ref h1, .ref h2, .int x0, .int 0, .int 0, .int 0]))] sz)) 0 0 (va_A [(h0, .inr (9, [.ref h1, .ref h2, .int x0, .int 0, .int 0, .int 0]))] sz) := by
  refine Met.ofW (cc := cX9_startAnew) (maxL := 1) (ret := none) (by decide) rfl ?_
  intro p e s m args below meth c s₁ B hml hv
  obtain ⟨rfl, hsz, hP, hK, hD0⟩ := hv
  have hx := B.exec
  have hb := B.bytes
  have hr := B.returns
  have hts0 := atoms_spec (ws := Cond.code yX9_startAnew cX9_startAnew 1 none :: lw_G) B.pre
  have hG : ∀ w ∈ lw_G, w.before _ s = true := fun w h => hts0 w (List.mem_cons_of_mem _ h)
  have hown : s.vm.findClass RX9 = some m.cls := findClass_of_methodNamed B.named
  have hlocks := B.notSynchronized
  subst hsz
  have hD := hD0.self (sz := s.heap.size)
  generalize hAe : va_A [(h0, .inr (9, [.ref h1, .ref h2, .int x0, .int 0, .int 0, .int 0]))] s.heap.size = A at hD ⊢
  have hA : ∀ q : Nat, s.heap.size ≤ q → A q := fun q h => by rw [← hAe]; exact Or.inr h
  have hS : va_S A s.heap s.heap [] := va_S.rf
  have hP : va_P (dC, dI) vwCl [(h0, .inr (9, [.ref h1, .ref h2, .int x0, .int 0, .int 0, .int 0]))] s.heap := hP
  have hl := lv_entry ([.ref h0]) (n := 1) (Nat.le_of_ble_eq_true rfl)
  rw [lg_entry_eq]
  generalize (lg_sl ([.ref h0]) ++ List.replicate (1 - (lg_sl ([.ref h0])).length) Slot.unset).toArray = ls at hl ⊢
  have hl : lv_has ls 1 [(0, .ref h0)] := hl
  refine lv_aload_n hx hb dX9_startAnew_0 rfl (lv_at hl 0 rfl) ?_
  refine lv_iconst (v := 0) hx hb dX9_startAnew_1 (by decide) ?_
  refine va_put (D := (dC, dI)) (ci := 9) (v := .int 0) (ty := .int) (C := RX9) (T := TX9) (N := 6) hx hb hG inGX9 tyX9 tyX9_ok nmX9 hown hK hP hD hS 0 rfl rfl 3 (by decide) (hG _ wd_98) (fun _ h9 => h9) rfl (by decide +kernel) rfl rfl (Nat.le_of_ble_eq_true rfl) dX9_startAnew_2 (fun H locs hP hD hS => ?_)
  have hP : va_P (dC, dI) vwCl [(h0, .inr (9, [.ref h1, .ref h2, .int x0, .int 0, .int 0, .int 0]))] H := hP
  have hD : va_D A [(h0, .inr (9, [.ref h1, .ref h2, .int x0, .int 0, .int 0, .int 0]))] := hD
  refine lv_aload_n hx hb dX9_startAnew_5 rfl (lv_at hl 0 rfl) ?_
  refine lv_iconst (v := 0) hx hb dX9_startAnew_6 (by decide) ?_
  refine va_put (D := (dC, dI)) (ci := 9) (v := .int 0) (ty := .int) (C := RX9) (T := TX9) (N := 6) hx hb hG inGX9 tyX9 tyX9_ok nmX9 hown hK hP hD hS 0 rfl rfl 4 (by decide) (hG _ wd_99) (fun _ h9 => h9) rfl (by decide +kernel) rfl rfl (Nat.le_of_ble_eq_true rfl) dX9_startAnew_7 (fun H locs hP hD hS => ?_)
  have hP : va_P (dC, dI) vwCl [(h0, .inr (9, [.ref h1, .ref h2, .int x0, .int 0, .int 0, .int 0]))] H := hP
  have hD : va_D A [(h0, .inr (9, [.ref h1, .ref h2, .int x0, .int 0, .int 0, .int 0]))] := hD
  refine lv_aload_n hx hb dX9_startAnew_10 rfl (lv_at hl 0 rfl) ?_
  refine lv_iconst (v := 0) hx hb dX9_startAnew_11 (by decide) ?_
  refine va_put (D := (dC, dI)) (ci := 9) (v := .int 0) (ty := .boolean) (C := RX9) (T := TX9) (N := 6) hx hb hG inGX9 tyX9 tyX9_ok nmX9 hown hK hP hD hS 0 rfl rfl 5 (by decide) (hG _ wd_100) (fun _ h9 => h9) rfl (by decide +kernel) rfl rfl (Nat.le_of_ble_eq_true rfl) dX9_startAnew_12 (fun H locs hP hD hS => ?_)
  have hP : va_P (dC, dI) vwCl [(h0, .inr (9, [.ref h1, .ref h2, .int x0, .int 0, .int 0, .int 0]))] H := hP
  have hD : va_D A [(h0, .inr (9, [.ref h1, .ref h2, .int x0, .int 0, .int 0, .int 0]))] := hD
  have hP9 := hP.sub (ws' := [(h0, .inr (9, [.ref h1, .ref h2, .int x0, .int 0, .int 0, .int 0]))]) [0] rfl
  have hD9 := hD.sub (ws' := [(h0, .inr (9, [.ref h1, .ref h2, .int x0, .int 0, .int 0, .int 0]))]) [0] (by decide) rfl
  have hK9 := hK.sub (tys' := []) [] rfl
  exact W.vret hx hb hr (fun t ht hW => ⟨⟨(), rfl, trivial, by rw [ht]; exact hP9, va_K.moved hW.alike hK9, hD9⟩, hS.F ht⟩) hS.2.2 dX9_startAnew_15
set_option maxHeartbeats 4000000 in
set_option maxRecDepth 100000 in
theorem cX9_writeWord_4 (l : Launch) (dC : Nat → ClassId) (dI : Nat → Nat → Nat) (h0 h1 h2 : Nat) (y0 y1 : ClassId) (sz : Nat) (x0 x1 : Int32) (ix0 : iv x0 319 511) (ix1 : iv x1 0 255) : Met l yX9_writeWord (Cond.code yX9_writeWord cX9_writeWord 3 none :: lw_G) ({ frames := 1, cells := 0, slots := 0, locals := 20 }) (va_Pc [.ref h0, .int x0, .int x1] (fun U => U.heap.size = sz ∧ va_P (dC, dI) vwCl [(h0, .inr (9, [.ref h1, .ref h2, .int 0, .int 0, .int 0, .int 0])), (h2, .inl (y0, 3, .inl (fun _ => 0))), (h1, .inl (y1, 3, .inl (fun _ => 0)))] U.heap ∧ va_K (dC, dI) vwCl [(y0, .int), (y1, .int)] U ∧ va_D (fun _ => True) [(h0, .inr (9, [.ref h1, .ref h2, .int 0, .int 0, .int 0, .int 0])), (h2, .inl (y0, 3, .inl (fun _ => 0))), (h1, .inl (y1, 3, .inl (fun _ => 0)))])) (va_Qv (fun (u : Int32 × Int32 × (Nat → Int32) × (Nat → Int32)) => iv u.1 0 255 ∧ iv u.2.1 0 255 ∧ (∀ j, iv (u.2.2.1 j) 0 255) ∧ (∀ j, iv (u.2.2.2 j) 0 17) ∧ True) (fun (u : Int32 × Int32 × (Nat → Int32) × (Nat → Int32)) (t : State) => va_P (dC, dI) vwCl [(h0, .inr (9, [.ref h1, .ref h2, .int u.1, .int u.2.1, .int 0, .int 0])), (h2, .inl (y0, 3, .inl u.2.2.1)), (h1, .inl (y1, 3, .inl u.2.2.2))] t.heap ∧ va_K (dC, dI) vwCl [(y0, .int), (y1, .int)] t ∧ va_D (va_A [(h0, .inr (9, [.ref h1, .ref h2, .int 0, .int 0, .int 0, .int 0])), (h2, .inl (y0, 3, .inl (fun _ => 0))), (h1, .inl (y1, 3, .inl (fun _ => 0)))] sz) [(h0, .inr (9, [.ref h1, .ref h2, .int u.1, .int u.2.1, .int 0, .int 0])), (h2, .inl (y0, 3, .inl u.2.2.1)), (h1, .inl (y1, 3, .inl u.2.2.2))]) (va_A [(h0, .inr (9, [.ref h1, .ref h2, .int 0, .int 0, .int 0, .int 0])), (h2, .inl (y0, 3, .inl (fun _ => 0))), (h1, .inl (y1, 3, .inl (fun _ => 0)))] sz)) 0 0 (va_A [(h0, .inr (9, [.ref h1, .ref h2, .int 0, .int 0, .int 0, .int 0])), (h2, .inl (y0, 3, .inl (fun _ => 0))), (h1, .inl (y1, 3, .inl (fun _ => 0)))] sz) := by
  refine Met.ofW (cc := cX9_writeWord) (maxL := 3) (ret := none) (by decide) rfl ?_
  intro p e s m args below meth c s₁ B hml hv
  obtain ⟨rfl, hsz, hP, hK, hD0⟩ := hv
  have hx := B.exec
  have hb := B.bytes
  have hr := B.returns
  have hts0 := atoms_spec (ws := Cond.code yX9_writeWord cX9_writeWord 3 none :: lw_G) B.pre
  have hG : ∀ w ∈ lw_G, w.before _ s = true := fun w h => hts0 w (List.mem_cons_of_mem _ h)
  have hown : s.vm.findClass RX9 = some m.cls := findClass_of_methodNamed B.named
  have hlocks := B.notSynchronized
  subst hsz
  have hD := hD0.self (sz := s.heap.size)
  generalize hAe : va_A [(h0, .inr (9, [.ref h1, .ref h2, .int 0, .int 0, .int 0, .int 0])), (h2, .inl (y0, 3, .inl (fun _ => 0))), (h1, .inl (y1, 3, .inl (fun _ => 0)))] s.heap.size = A at hD ⊢
  have hA : ∀ q : Nat, s.heap.size ≤ q → A q := fun q h => by rw [← hAe]; exact Or.inr h
  have hS : va_S A s.heap s.heap [] := va_S.rf
  have hP : va_P (dC, dI) vwCl [(h0, .inr (9, [.ref h1, .ref h2, .int 0, .int 0, .int 0, .int 0])), (h2, .inl (y0, 3, .inl (fun _ => 0))), (h1, .inl (y1, 3, .inl (fun _ => 0)))] s.heap := hP
  have hl := lv_entry ([.ref h0, .int x0, .int x1]) (n := 3) (Nat.le_of_ble_eq_true rfl)
  rw [lg_entry_eq]
  generalize (lg_sl ([.ref h0, .int x0, .int x1]) ++ List.replicate (3 - (lg_sl ([.ref h0, .int x0, .int x1])).length) Slot.unset).toArray = ls at hl ⊢
  have hl : lv_has ls 3 [(0, .ref h0), (1, .int x0), (2, .int x1)] := hl
  refine lv_iload_n hx hb dX9_writeWord_0 rfl (lv_at hl 1 rfl) ?_
  refine lv_sipush (v := 352) hx hb dX9_writeWord_1 (by decide) ?_
  refine lv_icmp_ne (tgt := 28) hx hb dX9_writeWord_4 (by decide) (fun c1 => ?_) (fun c1 => ?_)
  · skip
    refine lv_iload_n hx hb dX9_writeWord_28 rfl (lv_at hl 1 rfl) ?_
    refine lv_sipush (v := 354) hx hb dX9_writeWord_29 (by decide) ?_
    refine lv_icmp_lt (tgt := 61) hx hb dX9_writeWord_32 (by decide) (fun c2 => ?_) (fun c2 => ?_)
    · skip
      have j3 : iv x0 319 353 := iv_ltL ix0 (by decide : iv 354 354 354) c2 (by decide)
      refine lv_iload_n hx hb dX9_writeWord_61 rfl (lv_at hl 1 rfl) ?_
      refine lv_sipush (v := 368) hx hb dX9_writeWord_62 (by decide) ?_
      refine lv_icmp_ne (tgt := 76) hx hb dX9_writeWord_65 (by decide) (fun _ => ?_) (fun c => absurd c (iv_ne j3 (by decide : iv 368 368 368) (by decide)))
      refine lv_iload_n hx hb dX9_writeWord_76 rfl (lv_at hl 1 rfl) ?_
      refine lv_sipush (v := 370) hx hb dX9_writeWord_77 (by decide) ?_
      refine lv_icmp_lt (tgt := 103) hx hb dX9_writeWord_80 (by decide) (fun _ => ?_) (fun c => absurd (iv_lt j3 (by decide : iv 370 370 370) (by decide)) c)
      have hP9 := hP.sub (ws' := [(h0, .inr (9, [.ref h1, .ref h2, .int 0, .int 0, .int 0, .int 0])), (h2, .inl (y0, 3, .inl (fun _ => 0))), (h1, .inl (y1, 3, .inl (fun _ => 0)))]) [0, 1, 2] rfl
      have hD9 := hD.sub (ws' := [(h0, .inr (9, [.ref h1, .ref h2, .int 0, .int 0, .int 0, .int 0])), (h2, .inl (y0, 3, .inl (fun _ => 0))), (h1, .inl (y1, 3, .inl (fun _ => 0)))]) [0, 1, 2] (by decide) rfl
      have hK9 := hK.sub (tys' := [(y0, .int), (y1, .int)]) [0, 1] rfl
      exact W.vret hx hb hr (fun t ht hW => ⟨⟨(0, 0, (fun _ => 0), (fun _ => 0)), rfl, ⟨iv_w (by decide : iv 0 0 0) (by decide) (by decide), iv_w (by decide : iv 0 0 0) (by decide) (by decide), (fun _ => (by decide : iv 0 0 255)), (fun _ => (by decide : iv 0 0 17)), trivial⟩, by rw [ht]; exact hP9, va_K.moved hW.alike hK9, hD9⟩, hS.F ht⟩) hS.2.2 dX9_writeWord_103
    · skip
      have j4 : iv x0 354 511 := iv_nltL ix0 (by decide : iv 354 354 354) c2 (by decide)
      refine lv_iload_n hx hb dX9_writeWord_35 rfl (lv_at hl 1 rfl) ?_
      refine lv_sipush (v := 358) hx hb dX9_writeWord_36 (by decide) ?_
      refine lv_icmp_gt (tgt := 61) hx hb dX9_writeWord_39 (by decide) (fun c5 => ?_) (fun c5 => ?_)
      · skip
        have j6 : iv x0 359 511 := iv_ltR (by decide : iv 358 358 358) j4 c5 (by decide)
        refine lv_iload_n hx hb dX9_writeWord_61 rfl (lv_at hl 1 rfl) ?_
        refine lv_sipush (v := 368) hx hb dX9_writeWord_62 (by decide) ?_
        refine lv_icmp_ne (tgt := 76) hx hb dX9_writeWord_65 (by decide) (fun c7 => ?_) (fun c7 => ?_)
        · skip
          refine lv_iload_n hx hb dX9_writeWord_76 rfl (lv_at hl 1 rfl) ?_
          refine lv_sipush (v := 370) hx hb dX9_writeWord_77 (by decide) ?_
          refine lv_icmp_lt (tgt := 103) hx hb dX9_writeWord_80 (by decide) (fun c8 => ?_) (fun c8 => ?_)
          · skip
            have j9 : iv x0 359 369 := iv_ltL j6 (by decide : iv 370 370 370) c8 (by decide)
            have hP9 := hP.sub (ws' := [(h0, .inr (9, [.ref h1, .ref h2, .int 0, .int 0, .int 0, .int 0])), (h2, .inl (y0, 3, .inl (fun _ => 0))), (h1, .inl (y1, 3, .inl (fun _ => 0)))]) [0, 1, 2] rfl
            have hD9 := hD.sub (ws' := [(h0, .inr (9, [.ref h1, .ref h2, .int 0, .int 0, .int 0, .int 0])), (h2, .inl (y0, 3, .inl (fun _ => 0))), (h1, .inl (y1, 3, .inl (fun _ => 0)))]) [0, 1, 2] (by decide) rfl
            have hK9 := hK.sub (tys' := [(y0, .int), (y1, .int)]) [0, 1] rfl
            exact W.vret hx hb hr (fun t ht hW => ⟨⟨(0, 0, (fun _ => 0), (fun _ => 0)), rfl, ⟨iv_w (by decide : iv 0 0 0) (by decide) (by decide), iv_w (by decide : iv 0 0 0) (by decide) (by decide), (fun _ => (by decide : iv 0 0 255)), (fun _ => (by decide : iv 0 0 17)), trivial⟩, by rw [ht]; exact hP9, va_K.moved hW.alike hK9, hD9⟩, hS.F ht⟩) hS.2.2 dX9_writeWord_103
          · skip
            have j10 : iv x0 370 511 := iv_nltL j6 (by decide : iv 370 370 370) c8 (by decide)
            refine lv_iload_n hx hb dX9_writeWord_83 rfl (lv_at hl 1 rfl) ?_
            refine lv_sipush (v := 374) hx hb dX9_writeWord_84 (by decide) ?_
            refine lv_icmp_gt (tgt := 103) hx hb dX9_writeWord_87 (by decide) (fun c11 => ?_) (fun c11 => ?_)
            · skip
              have j12 : iv x0 375 511 := iv_ltR (by decide : iv 374 374 374) j10 c11 (by decide)
              have hP9 := hP.sub (ws' := [(h0, .inr (9, [.ref h1, .ref h2, .int 0, .int 0, .int 0, .int 0])), (h2, .inl (y0, 3, .inl (fun _ => 0))), (h1, .inl (y1, 3, .inl (fun _ => 0)))]) [0, 1, 2] rfl
              have hD9 := hD.sub (ws' := [(h0, .inr (9, [.ref h1, .ref h2, .int 0, .int 0, .int 0, .int 0])), (h2, .inl (y0, 3, .inl (fun _ => 0))), (h1, .inl (y1, 3, .inl (fun _ => 0)))]) [0, 1, 2] (by decide) rfl
              have hK9 := hK.sub (tys' := [(y0, .int), (y1, .int)]) [0, 1] rfl
              exact W.vret hx hb hr (fun t ht hW => ⟨⟨(0, 0, (fun _ => 0), (fun _ => 0)), rfl, ⟨iv_w (by decide : iv 0 0 0) (by decide) (by decide), iv_w (by decide : iv 0 0 0) (by decide) (by decide), (fun _ => (by decide : iv 0 0 255)), (fun _ => (by decide : iv 0 0 17)), trivial⟩, by rw [ht]; exact hP9, va_K.moved hW.alike hK9, hD9⟩, hS.F ht⟩) hS.2.2 dX9_writeWord_103
            · skip
              have j13 : iv x0 370 374 := iv_nltR (by decide : iv 374 374 374) j10 c11 (by decide)
              refine lv_aload_n hx hb dX9_writeWord_90 rfl (lv_at hl 0 rfl) ?_
              refine va_get (D := (dC, dI)) (ci := 9) (v := .ref h2) (C := RX9) (T := TX9) (N := 6) hx hb hG inGX9 hown hK hP 0 rfl rfl 1 (by decide) (hG _ wd_96) (fun _ h9 => h9) rfl dX9_writeWord_91 ?_
              refine lv_iload_n hx hb dX9_writeWord_94 rfl (lv_at hl 1 rfl) ?_
              refine lv_sipush (v := 370) hx hb dX9_writeWord_95 (by decide) ?_
              refine lv_isub hx hb dX9_writeWord_98 ?_
              refine lv_topi (fun v14 ev14 => ?_)
              have iv14 : iv v14 0 4 := iv_eq ev14 (iv_sub j13 (by decide : iv 370 370 370) (by decide) (by decide))
              refine lv_iconst (v := 1) hx hb dX9_writeWord_99 (by decide) ?_
              refine lv_ishr hx hb dX9_writeWord_100 ?_
              refine lv_topi (fun v15 ev15 => ?_)
              have iv15 : iv v15 0 2 := iv_eq ev15 (iv_shr 1 (by decide) iv14 (by decide) (by decide))
              refine lv_iload_n hx hb dX9_writeWord_101 rfl (lv_at hl 2 rfl) ?_
              refine va_iast hx hb hK hP hD hS 1 0 rfl rfl (iv_in iv15 (by decide) (by decide) : vp_in v15 3) dX9_writeWord_102 (fun H locs hP hD hS => ?_)
              have hP : va_P (dC, dI) vwCl [(h0, .inr (9, [.ref h1, .ref h2, .int 0, .int 0, .int 0, .int 0])), (h2, .inl (y0, 3, .inl (upd (fun _ => 0) v15.toNatClampNeg x1))), (h1, .inl (y1, 3, .inl (fun _ => 0)))] H := hP
              have hD : va_D A [(h0, .inr (9, [.ref h1, .ref h2, .int 0, .int 0, .int 0, .int 0])), (h2, .inl (y0, 3, .inl (upd (fun _ => 0) v15.toNatClampNeg x1))), (h1, .inl (y1, 3, .inl (fun _ => 0)))] := hD
              obtain ⟨f16, ef16⟩ : ∃ z, z = upd (fun _ => 0) v15.toNatClampNeg x1 := ⟨_, rfl⟩
              rw [← ef16] at hP hD
              have if16 : ∀ j, iv (f16 j) 0 255 := by rw [ef16]; exact iv_upd (fun _ => (by decide : iv 0 0 0)) ix1 (by decide) (by decide) (by decide) (by decide)
              have hP9 := hP.sub (ws' := [(h0, .inr (9, [.ref h1, .ref h2, .int 0, .int 0, .int 0, .int 0])), (h2, .inl (y0, 3, .inl f16)), (h1, .inl (y1, 3, .inl (fun _ => 0)))]) [0, 1, 2] rfl
              have hD9 := hD.sub (ws' := [(h0, .inr (9, [.ref h1, .ref h2, .int 0, .int 0, .int 0, .int 0])), (h2, .inl (y0, 3, .inl f16)), (h1, .inl (y1, 3, .inl (fun _ => 0)))]) [0, 1, 2] (by decide) rfl
              have hK9 := hK.sub (tys' := [(y0, .int), (y1, .int)]) [0, 1] rfl
              exact W.vret hx hb hr (fun t ht hW => ⟨⟨(0, 0, f16, (fun _ => 0)), rfl, ⟨iv_w (by decide : iv 0 0 0) (by decide) (by decide), iv_w (by decide : iv 0 0 0) (by decide) (by decide), (fun j => iv_w (if16 j) (by decide) (by decide)), (fun _ => (by decide : iv 0 0 17)), trivial⟩, by rw [ht]; exact hP9, va_K.moved hW.alike hK9, hD9⟩, hS.F ht⟩) hS.2.2 dX9_writeWord_103
        · skip
          subst c7
          refine lv_aload_n hx hb dX9_writeWord_68 rfl (lv_at hl 0 rfl) ?_
          refine lv_iload_n hx hb dX9_writeWord_69 rfl (lv_at hl 2 rfl) ?_
          refine va_put (D := (dC, dI)) (ci := 9) (v := .int x1) (ty := .int) (C := RX9) (T := TX9) (N := 6) hx hb hG inGX9 tyX9 tyX9_ok nmX9 hown hK hP hD hS 0 rfl rfl 3 (by decide) (hG _ wd_98) (fun _ h9 => h9) rfl (by decide +kernel) rfl rfl (Nat.le_of_ble_eq_true rfl) dX9_writeWord_70 (fun H locs hP hD hS => ?_)
          have hP : va_P (dC, dI) vwCl [(h0, .inr (9, [.ref h1, .ref h2, .int 0, .int x1, .int 0, .int 0])), (h2, .inl (y0, 3, .inl (fun _ => 0))), (h1, .inl (y1, 3, .inl (fun _ => 0)))] H := hP
          have hD : va_D A [(h0, .inr (9, [.ref h1, .ref h2, .int 0, .int x1, .int 0, .int 0])), (h2, .inl (y0, 3, .inl (fun _ => 0))), (h1, .inl (y1, 3, .inl (fun _ => 0)))] := hD
          refine lv_goto (tgt := 103) hx hb dX9_writeWord_73 (by decide) ?_
          have hP9 := hP.sub (ws' := [(h0, .inr (9, [.ref h1, .ref h2, .int 0, .int x1, .int 0, .int 0])), (h2, .inl (y0, 3, .inl (fun _ => 0))), (h1, .inl (y1, 3, .inl (fun _ => 0)))]) [0, 1, 2] rfl
          have hD9 := hD.sub (ws' := [(h0, .inr (9, [.ref h1, .ref h2, .int 0, .int x1, .int 0, .int 0])), (h2, .inl (y0, 3, .inl (fun _ => 0))), (h1, .inl (y1, 3, .inl (fun _ => 0)))]) [0, 1, 2] (by decide) rfl
          have hK9 := hK.sub (tys' := [(y0, .int), (y1, .int)]) [0, 1] rfl
          exact W.vret hx hb hr (fun t ht hW => ⟨⟨(0, x1, (fun _ => 0), (fun _ => 0)), rfl, ⟨iv_w (by decide : iv 0 0 0) (by decide) (by decide), iv_w ix1 (by decide) (by decide), (fun _ => (by decide : iv 0 0 255)), (fun _ => (by decide : iv 0 0 17)), trivial⟩, by rw [ht]; exact hP9, va_K.moved hW.alike hK9, hD9⟩, hS.F ht⟩) hS.2.2 dX9_writeWord_103
      · skip
        have j17 : iv x0 354 358 := iv_nltR (by decide : iv 358 358 358) j4 c5 (by decide)
        refine lv_aload_n hx hb dX9_writeWord_42 rfl (lv_at hl 0 rfl) ?_
        refine va_get (D := (dC, dI)) (ci := 9) (v := .ref h1) (C := RX9) (T := TX9) (N := 6) hx hb hG inGX9 hown hK hP 0 rfl rfl 0 (by decide) (hG _ wd_95) (fun _ h9 => h9) rfl dX9_writeWord_43 ?_
        refine lv_iload_n hx hb dX9_writeWord_46 rfl (lv_at hl 1 rfl) ?_
        refine lv_sipush (v := 354) hx hb dX9_writeWord_47 (by decide) ?_
        refine lv_isub hx hb dX9_writeWord_50 ?_
        refine lv_topi (fun v18 ev18 => ?_)
        have iv18 : iv v18 0 4 := iv_eq ev18 (iv_sub j17 (by decide : iv 354 354 354) (by decide) (by decide))
        refine lv_iconst (v := 1) hx hb dX9_writeWord_51 (by decide) ?_
        refine lv_ishr hx hb dX9_writeWord_52 ?_
        refine lv_topi (fun v19 ev19 => ?_)
        have iv19 : iv v19 0 2 := iv_eq ev19 (iv_shr 1 (by decide) iv18 (by decide) (by decide))
        refine lv_iload_n hx hb dX9_writeWord_53 rfl (lv_at hl 2 rfl) ?_
        refine lv_bipush (v := 17) hx hb dX9_writeWord_54 (by decide) ?_
        refine lv_iand hx hb dX9_writeWord_56 ?_
        refine lv_topi (fun v20 ev20 => ?_)
        have iv20 : iv v20 0 17 := iv_eq ev20 (iv_and (x := x1) (iv_w (by decide : iv 17 17 17) (by decide) (by decide) : iv 17 0 17))
        refine va_iast hx hb hK hP hD hS 2 1 rfl rfl (iv_in iv19 (by decide) (by decide) : vp_in v19 3) dX9_writeWord_57 (fun H locs hP hD hS => ?_)
        have hP : va_P (dC, dI) vwCl [(h0, .inr (9, [.ref h1, .ref h2, .int 0, .int 0, .int 0, .int 0])), (h2, .inl (y0, 3, .inl (fun _ => 0))), (h1, .inl (y1, 3, .inl (upd (fun _ => 0) v19.toNatClampNeg v20)))] H := hP
        have hD : va_D A [(h0, .inr (9, [.ref h1, .ref h2, .int 0, .int 0, .int 0, .int 0])), (h2, .inl (y0, 3, .inl (fun _ => 0))), (h1, .inl (y1, 3, .inl (upd (fun _ => 0) v19.toNatClampNeg v20)))] := hD
        obtain ⟨f21, ef21⟩ : ∃ z, z = upd (fun _ => 0) v19.toNatClampNeg v20 := ⟨_, rfl⟩
        rw [← ef21] at hP hD
        have if21 : ∀ j, iv (f21 j) 0 17 := by rw [ef21]; exact iv_upd (fun _ => (by decide : iv 0 0 0)) iv20 (by decide) (by decide) (by decide) (by decide)
        refine lv_goto (tgt := 103) hx hb dX9_writeWord_58 (by decide) ?_
        have hP9 := hP.sub (ws' := [(h0, .inr (9, [.ref h1, .ref h2, .int 0, .int 0, .int 0, .int 0])), (h2, .inl (y0, 3, .inl (fun _ => 0))), (h1, .inl (y1, 3, .inl f21))]) [0, 1, 2] rfl
        have hD9 := hD.sub (ws' := [(h0, .inr (9, [.ref h1, .ref h2, .int 0, .int 0, .int 0, .int 0])), (h2, .inl (y0, 3, .inl (fun _ => 0))), (h1, .inl (y1, 3, .inl f21))]) [0, 1, 2] (by decide) rfl
        have hK9 := hK.sub (tys' := [(y0, .int), (y1, .int)]) [0, 1] rfl
        exact W.vret hx hb hr (fun t ht hW => ⟨⟨(0, 0, (fun _ => 0), f21), rfl, ⟨iv_w (by decide : iv 0 0 0) (by decide) (by decide), iv_w (by decide : iv 0 0 0) (by decide) (by decide), (fun _ => (by decide : iv 0 0 255)), (fun j => iv_w (if21 j) (by decide) (by decide)), trivial⟩, by rw [ht]; exact hP9, va_K.moved hW.alike hK9, hD9⟩, hS.F ht⟩) hS.2.2 dX9_writeWord_103
  · skip
    subst c1
    refine lv_aload_n hx hb dX9_writeWord_7 rfl (lv_at hl 0 rfl) ?_
    refine lv_iload_n hx hb dX9_writeWord_8 rfl (lv_at hl 2 rfl) ?_
    refine lv_ldc hx hb hown (hG _ wd_763) dX9_writeWord_9 ?_
    refine lv_iand hx hb dX9_writeWord_11 ?_
    refine lv_topi (fun v22 ev22 => ?_)
    have iv22 : iv v22 0 255 := iv_eq ev22 (iv_andL (y := 65531) (iv_w ix1 (by decide) (by decide) : iv x1 0 255))
    refine va_put (D := (dC, dI)) (ci := 9) (v := .int v22) (ty := .int) (C := RX9) (T := TX9) (N := 6) hx hb hG inGX9 tyX9 tyX9_ok nmX9 hown hK hP hD hS 0 rfl rfl 2 (by decide) (hG _ wd_97) (fun _ h9 => h9) rfl (by decide +kernel) rfl rfl (Nat.le_of_ble_eq_true rfl) dX9_writeWord_12 (fun H locs hP hD hS => ?_)
    have hP : va_P (dC, dI) vwCl [(h0, .inr (9, [.ref h1, .ref h2, .int v22, .int 0, .int 0, .int 0])), (h2, .inl (y0, 3, .inl (fun _ => 0))), (h1, .inl (y1, 3, .inl (fun _ => 0)))] H := hP
    have hD : va_D A [(h0, .inr (9, [.ref h1, .ref h2, .int v22, .int 0, .int 0, .int 0])), (h2, .inl (y0, 3, .inl (fun _ => 0))), (h1, .inl (y1, 3, .inl (fun _ => 0)))] := hD
    refine lv_iload_n hx hb dX9_writeWord_15 rfl (lv_at hl 2 rfl) ?_
    refine lv_iconst (v := 4) hx hb dX9_writeWord_16 (by decide) ?_
    refine lv_iand hx hb dX9_writeWord_17 ?_
    refine lv_topi (fun v23 ev23 => ?_)
    have iv23 : iv v23 0 4 := iv_eq ev23 (iv_and (x := x1) (iv_w (by decide : iv 4 4 4) (by decide) (by decide) : iv 4 0 4))
    refine lv_if_eq (tgt := 103) hx hb dX9_writeWord_18 (by decide) (fun c24 => ?_) (fun c24 => ?_)
    · skip
      subst c24
      have hP9 := hP.sub (ws' := [(h0, .inr (9, [.ref h1, .ref h2, .int v22, .int 0, .int 0, .int 0])), (h2, .inl (y0, 3, .inl (fun _ => 0))), (h1, .inl (y1, 3, .inl (fun _ => 0)))]) [0, 1, 2] rfl
      have hD9 := hD.sub (ws' := [(h0, .inr (9, [.ref h1, .ref h2, .int v22, .int 0, .int 0, .int 0])), (h2, .inl (y0, 3, .inl (fun _ => 0))), (h1, .inl (y1, 3, .inl (fun _ => 0)))]) [0, 1, 2] (by decide) rfl
      have hK9 := hK.sub (tys' := [(y0, .int), (y1, .int)]) [0, 1] rfl
      exact W.vret hx hb hr (fun t ht hW => ⟨⟨(v22, 0, (fun _ => 0), (fun _ => 0)), rfl, ⟨iv_w iv22 (by decide) (by decide), iv_w (by decide : iv 0 0 0) (by decide) (by decide), (fun _ => (by decide : iv 0 0 255)), (fun _ => (by decide : iv 0 0 17)), trivial⟩, by rw [ht]; exact hP9, va_K.moved hW.alike hK9, hD9⟩, hS.F ht⟩) hS.2.2 dX9_writeWord_103
    · skip
      have j25 : iv v23 1 4 := iv_neLo iv23 (by decide : iv 0 0 0) c24 (by decide)
      refine lv_aload_n hx hb dX9_writeWord_21 rfl (lv_at hl 0 rfl) ?_
      have hPc := hP.sub (ws' := [(h0, .inr (9, [.ref h1, .ref h2, .int v22, .int 0, .int 0, .int 0]))]) [0] rfl
      have hDc := hD.sub (ws' := [(h0, .inr (9, [.ref h1, .ref h2, .int v22, .int 0, .int 0, .int 0]))]) [0] (by decide) rfl
      have hKc := hK.sub (tys' := []) [] rfl
      have hFc := va_free (wc := [(h0, .inr (9, [.ref h1, .ref h2, .int v22, .int 0, .int 0, .int 0]))]) hD hS hA [0] rfl
      refine va_callv (va_runV (As := []) (rest := []) ⟨hx, hb, hml, hown, hG⟩ (cX9_startAnew_3 l dC dI h0 h1 h2 H.size v22 iv22) (cwV 0 hG (gV wd_764 wd_766 wp_30 wd_5 wd_767) rfl rfl rfl (by decide +kernel) ⟨Nat.le_of_ble_eq_true rfl, Nat.le_of_ble_eq_true rfl⟩) ⟨fun a U g mk q => by obtain ⟨q0, q1, qP, qK, qD⟩ := q; exact ⟨q0, q1, qP, va_K.moved (u := U) (U := U.calling g mk a) (Vm.Alike.refl U.vm) qK, qD⟩, va_recv hKc hPc (ci := 9) (q0 := 0) rfl rfl, fun U hU hW => ⟨rfl, by rw [hU], by rw [hU]; exact hPc, va_K.moved hW.alike hKc, hDc.weaken (fun _ _ _ _ => trivial)⟩⟩ rfl rfl hl.1 rfl (lv_room (Nat.le_of_ble_eq_true rfl)) dX9_writeWord_22 ⟨by decide, by decide⟩) hS (fun q _ h => hFc q h) hFc (fun u27 t H1 locs ht hvm hw hB hz1 hk1 hS => ?_)
      obtain ⟨hP1, hK1, hD1⟩ := hB
      rw [ht] at hP1
      have hK1 := va_K.moved hvm.symm hK1
      obtain ⟨hP, hD⟩ := va_join (wr := [(h2, .inl (y0, 3, .inl (fun _ => 0))), (h1, .inl (y1, 3, .inl (fun _ => 0)))]) (w1 := [(h0, .inr (9, [.ref h1, .ref h2, .int v22, .int 0, .int 0, .int 0]))]) hP hD [0] [1, 2] rfl rfl (by decide) (by decide) hk1 hFc hP1 hD1
      have hK := (hK.sub (tys' := [(y0, .int), (y1, .int)]) [0, 1] rfl).app hK1
      generalize H1 = H at hP hS ⊢
      have hP : va_P (dC, dI) vwCl [(h2, .inl (y0, 3, .inl (fun _ => 0))), (h1, .inl (y1, 3, .inl (fun _ => 0))), (h0, .inr (9, [.ref h1, .ref h2, .int v22, .int 0, .int 0, .int 0]))] H := hP
      have hD : va_D A [(h2, .inl (y0, 3, .inl (fun _ => 0))), (h1, .inl (y1, 3, .inl (fun _ => 0))), (h0, .inr (9, [.ref h1, .ref h2, .int v22, .int 0, .int 0, .int 0]))] := hD
      have hK : va_K (dC, dI) vwCl [(y0, .int), (y1, .int)] s := hK
      refine lv_goto (tgt := 103) hx hb dX9_writeWord_25 (by decide) ?_
      have hP9 := hP.sub (ws' := [(h0, .inr (9, [.ref h1, .ref h2, .int v22, .int 0, .int 0, .int 0])), (h2, .inl (y0, 3, .inl (fun _ => 0))), (h1, .inl (y1, 3, .inl (fun _ => 0)))]) [2, 0, 1] rfl
      have hD9 := hD.sub (ws' := [(h0, .inr (9, [.ref h1, .ref h2, .int v22, .int 0, .int 0, .int 0])), (h2, .inl (y0, 3, .inl (fun _ => 0))), (h1, .inl (y1, 3, .inl (fun _ => 0)))]) [2, 0, 1] (by decide) rfl
      have hK9 := hK.sub (tys' := [(y0, .int), (y1, .int)]) [0, 1] rfl
      exact W.vret hx hb hr (fun t ht hW => ⟨⟨(v22, 0, (fun _ => 0), (fun _ => 0)), rfl, ⟨iv_w iv22 (by decide) (by decide), iv_w (by decide : iv 0 0 0) (by decide) (by decide), (fun _ => (by decide : iv 0 0 255)), (fun _ => (by decide : iv 0 0 17)), trivial⟩, by rw [ht]; exact hP9, va_K.moved hW.alike hK9, hD9⟩, hS.F ht⟩) hS.2.2 dX9_writeWord_103
set_option maxHeartbeats 4000000 in
set_option maxRecDepth 100000 in
theorem cX5_multiply_2 (l : Launch) (dC : Nat → ClassId) (dI : Nat → Nat → Nat) (h0 : Nat) (sz : Nat) (x0 : Int32) (ix0 : iv x0 0 255) : Met l yX5_multiply (Cond.code yX5_multiply cX5_multiply 3 none :: lw_G) ({ frames := 0, cells := 0, slots := 0, locals := 0 }) (va_Pc [.ref h0] (fun U => U.heap.size = sz ∧ va_P (dC, dI) vwCl [(h0, .inr (5, [.int 304, .int 0, .int x0, .int 0, .int 0, .int 0]))] U.heap ∧ va_K (dC, dI) vwCl [] U ∧ va_D (fun _ => True) [(h0, .inr (5, [.int 304, .int 0, .int x0, .int 0, .int 0, .int 0]))])) (va_Qv (fun (u : Int32 × Int32) => iv u.1 0 65535 ∧ iv u.2 0 65535 ∧ True) (fun (u : Int32 × Int32) (t : State) => va_P (dC, dI) vwCl [(h0, .inr (5, [.int 304, .int 0, .int x0, .int u.1, .int u.2, .int 0]))] t.heap ∧ va_K (dC, dI) vwCl [] t ∧ va_D (va_A [(h0, .inr (5, [.int 304, .int 0, .int x0, .int 0, .int 0, .int 0]))] sz) [(h0, .inr (5, [.int 304, .int 0, .int x0, .int u.1, .int u.2, .int 0]))]) (va_A [(h0, .inr (5, [.int 304, .int 0, .int x0, .int 0, .int 0, .int 0]))] sz)) 0 0 (va_A [(h0, .inr (5, [.int 304, .int 0, .int x0, .int 0, .int 0, .int 0]))] sz) := by
  refine Met.ofW (cc := cX5_multiply) (maxL := 3) (ret := none) (by decide) rfl ?_
  intro p e s m args below meth c s₁ B hml hv
  obtain ⟨rfl, hsz, hP, hK, hD0⟩ := hv
  have hx := B.exec
  have hb := B.bytes
  have hr := B.returns
  have hts0 := atoms_spec (ws := Cond.code yX5_multiply cX5_multiply 3 none :: lw_G) B.pre
  have hG : ∀ w ∈ lw_G, w.before _ s = true := fun w h => hts0 w (List.mem_cons_of_mem _ h)
  have hown : s.vm.findClass RX5 = some m.cls := findClass_of_methodNamed B.named
  have hlocks := B.notSynchronized
  subst hsz
  have hD := hD0.self (sz := s.heap.size)
  generalize hAe : va_A [(h0, .inr (5, [.int 304, .int 0, .int x0, .int 0, .int 0, .int 0]))] s.heap.size = A at hD ⊢
  have hA : ∀ q : Nat, s.heap.size ≤ q → A q := fun q h => by rw [← hAe]; exact Or.inr h
  have hS : va_S A s.heap s.heap [] := va_S.rf
  have hP : va_P (dC, dI) vwCl [(h0, .inr (5, [.int 304, .int 0, .int x0, .int 0, .int 0, .int 0]))] s.heap := hP
  have hl := lv_entry ([.ref h0]) (n := 3) (Nat.le_of_ble_eq_true rfl)
  rw [lg_entry_eq]
  generalize (lg_sl ([.ref h0]) ++ List.replicate (3 - (lg_sl ([.ref h0])).length) Slot.unset).toArray = ls at hl ⊢
  have hl : lv_has ls 3 [(0, .ref h0)] := hl
  refine lv_aload_n hx hb dX5_multiply_0 rfl (lv_at hl 0 rfl) ?_
  refine va_get (D := (dC, dI)) (ci := 5) (v := .int 304) (C := RX5) (T := TX5) (N := 6) hx hb hG inGX5 hown hK hP 0 rfl rfl 0 (by decide) (hG _ wd_70) (fun _ h9 => h9) rfl dX5_multiply_1 ?_
  refine lv_sipush (v := 306) hx hb dX5_multiply_4 (by decide) ?_
  refine lv_icmp_ne (tgt := 43) hx hb dX5_multiply_7 (by decide) (fun _ => ?_) (fun c => absurd c (by decide))
  refine lv_aload_n hx hb dX5_multiply_43 rfl (lv_at hl 0 rfl) ?_
  refine va_get (D := (dC, dI)) (ci := 5) (v := .int 0) (C := RX5) (T := TX5) (N := 6) hx hb hG inGX5 hown hK hP 0 rfl rfl 1 (by decide) (hG _ wd_71) (fun _ h9 => h9) rfl dX5_multiply_44 ?_
  refine lv_i2l (v := _) hx hb dX5_multiply_47 rfl ?_
  refine lv_valL (y := 0) (by decide +kernel) ?_
  refine lv_aload_n hx hb dX5_multiply_48 rfl (lv_at hl 0 rfl) ?_
  refine va_get (D := (dC, dI)) (ci := 5) (v := .int x0) (C := RX5) (T := TX5) (N := 6) hx hb hG inGX5 hown hK hP 0 rfl rfl 2 (by decide) (hG _ wd_72) (fun _ h9 => h9) rfl dX5_multiply_49 ?_
  refine lv_i2l (v := _) hx hb dX5_multiply_52 rfl ?_
  refine lv_topl (fun w1 ew1 => ?_)
  refine lv_lmul hx hb dX5_multiply_53 ?_
  refine lv_topl (fun w2 ew2 => ?_)
  refine lv_lstore_n (lv' := [(1, .long w2), (0, .ref h0)]) hx hb dX5_multiply_54 rfl hl (by decide) rfl (fun ls hl => ?_)
  refine lv_aload_n hx hb dX5_multiply_55 rfl (lv_at hl 1 rfl) ?_
  refine lv_iconst (v := 0) hx hb dX5_multiply_56 (by decide) ?_
  refine va_put (D := (dC, dI)) (ci := 5) (v := .int 0) (ty := .int) (C := RX5) (T := TX5) (N := 6) hx hb hG inGX5 tyX5 tyX5_ok nmX5 hown hK hP hD hS 0 rfl rfl 5 (by decide) (hG _ wd_75) (fun _ h9 => h9) rfl (by decide +kernel) rfl rfl (Nat.le_of_ble_eq_true rfl) dX5_multiply_57 (fun H locs hP hD hS => ?_)
  have hP : va_P (dC, dI) vwCl [(h0, .inr (5, [.int 304, .int 0, .int x0, .int 0, .int 0, .int 0]))] H := hP
  have hD : va_D A [(h0, .inr (5, [.int 304, .int 0, .int x0, .int 0, .int 0, .int 0]))] := hD
  refine lv_aload_n hx hb dX5_multiply_60 rfl (lv_at hl 1 rfl) ?_
  refine va_get (D := (dC, dI)) (ci := 5) (v := .int 304) (C := RX5) (T := TX5) (N := 6) hx hb hG inGX5 hown hK hP 0 rfl rfl 0 (by decide) (hG _ wd_70) (fun _ h9 => h9) rfl dX5_multiply_61 ?_
  refine lv_sipush (v := 308) hx hb dX5_multiply_64 (by decide) ?_
  refine lv_icmp_ne (tgt := 98) hx hb dX5_multiply_67 (by decide) (fun _ => ?_) (fun c => absurd c (by decide))
  refine lv_aload_n hx hb dX5_multiply_98 rfl (lv_at hl 1 rfl) ?_
  refine lv_lload_n hx hb dX5_multiply_99 rfl (lv_at hl 0 rfl) ?_
  refine lv_l2i (v := _) hx hb dX5_multiply_100 rfl ?_
  refine lv_topi (fun v3 ev3 => ?_)
  refine lv_ldc hx hb hown (hG _ wd_758) dX5_multiply_101 ?_
  refine lv_iand hx hb dX5_multiply_103 ?_
  refine lv_topi (fun v4 ev4 => ?_)
  have iv4 : iv v4 0 65535 := iv_eq ev4 (iv_and (x := v3) (iv_w (by decide : iv 65535 65535 65535) (by decide) (by decide) : iv 65535 0 65535))
  refine va_put (D := (dC, dI)) (ci := 5) (v := .int v4) (ty := .int) (C := RX5) (T := TX5) (N := 6) hx hb hG inGX5 tyX5 tyX5_ok nmX5 hown hK hP hD hS 0 rfl rfl 3 (by decide) (hG _ wd_73) (fun _ h9 => h9) rfl (by decide +kernel) rfl rfl (Nat.le_of_ble_eq_true rfl) dX5_multiply_104 (fun H locs hP hD hS => ?_)
  have hP : va_P (dC, dI) vwCl [(h0, .inr (5, [.int 304, .int 0, .int x0, .int v4, .int 0, .int 0]))] H := hP
  have hD : va_D A [(h0, .inr (5, [.int 304, .int 0, .int x0, .int v4, .int 0, .int 0]))] := hD
  refine lv_aload_n hx hb dX5_multiply_107 rfl (lv_at hl 1 rfl) ?_
  refine lv_lload_n hx hb dX5_multiply_108 rfl (lv_at hl 0 rfl) ?_
  refine lv_bipush (v := 16) hx hb dX5_multiply_109 (by decide) ?_
  refine lv_lushr (v := _) hx hb dX5_multiply_111 rfl ?_
  refine lv_topl (fun w5 ew5 => ?_)
  refine lv_l2i (v := _) hx hb dX5_multiply_112 rfl ?_
  refine lv_topi (fun v6 ev6 => ?_)
  refine lv_ldc hx hb hown (hG _ wd_758) dX5_multiply_113 ?_
  refine lv_iand hx hb dX5_multiply_115 ?_
  refine lv_topi (fun v7 ev7 => ?_)
  have iv7 : iv v7 0 65535 := iv_eq ev7 (iv_and (x := v6) (iv_w (by decide : iv 65535 65535 65535) (by decide) (by decide) : iv 65535 0 65535))
  refine va_put (D := (dC, dI)) (ci := 5) (v := .int v7) (ty := .int) (C := RX5) (T := TX5) (N := 6) hx hb hG inGX5 tyX5 tyX5_ok nmX5 hown hK hP hD hS 0 rfl rfl 4 (by decide) (hG _ wd_74) (fun _ h9 => h9) rfl (by decide +kernel) rfl rfl (Nat.le_of_ble_eq_true rfl) dX5_multiply_116 (fun H locs hP hD hS => ?_)
  have hP : va_P (dC, dI) vwCl [(h0, .inr (5, [.int 304, .int 0, .int x0, .int v4, .int v7, .int 0]))] H := hP
  have hD : va_D A [(h0, .inr (5, [.int 304, .int 0, .int x0, .int v4, .int v7, .int 0]))] := hD
  have hP9 := hP.sub (ws' := [(h0, .inr (5, [.int 304, .int 0, .int x0, .int v4, .int v7, .int 0]))]) [0] rfl
  have hD9 := hD.sub (ws' := [(h0, .inr (5, [.int 304, .int 0, .int x0, .int v4, .int v7, .int 0]))]) [0] (by decide) rfl
  have hK9 := hK.sub (tys' := []) [] rfl
  exact W.vret hx hb hr (fun t ht hW => ⟨⟨(v4, v7), rfl, ⟨iv_w iv4 (by decide) (by decide), iv_w iv7 (by decide) (by decide), trivial⟩, by rw [ht]; exact hP9, va_K.moved hW.alike hK9, hD9⟩, hS.F ht⟩) hS.2.2 dX5_multiply_119
set_option maxHeartbeats 4000000 in
set_option maxRecDepth 100000 in
theorem cX5_writeWord_2 (l : Launch) (dC : Nat → ClassId) (dI : Nat → Nat → Nat) (h0 : Nat) (sz : Nat) (x0 x1 : Int32) (ix0 : iv x0 304 318) (ix1 : iv x1 0 255) : Met l yX5_writeWord (Cond.code yX5_writeWord cX5_writeWord 3 none :: lw_G) ({ frames := 1, cells := 0, slots := 0, locals := 22 }) (va_Pc [.ref h0, .int x0, .int x1] (fun U => U.heap.size = sz ∧ va_P (dC, dI) vwCl [(h0, .inr (5, [.int 304, .int 0, .int 0, .int 0, .int 0, .int 0]))] U.heap ∧ va_K (dC, dI) vwCl [] U ∧ va_D (fun _ => True) [(h0, .inr (5, [.int 304, .int 0, .int 0, .int 0, .int 0, .int 0]))])) (va_Qv (fun (u : Int32 × Int32 × Int32 × Int32 × Int32) => iv u.1 304 308 ∧ iv u.2.1 0 255 ∧ iv u.2.2.1 0 255 ∧ iv u.2.2.2.1 0 65535 ∧ iv u.2.2.2.2 0 65535 ∧ True) (fun (u : Int32 × Int32 × Int32 × Int32 × Int32) (t : State) => va_P (dC, dI) vwCl [(h0, .inr (5, [.int u.1, .int u.2.1, .int u.2.2.1, .int u.2.2.2.1, .int u.2.2.2.2, .int 0]))] t.heap ∧ va_K (dC, dI) vwCl [] t ∧ va_D (va_A [(h0, .inr (5, [.int 304, .int 0, .int 0, .int 0, .int 0, .int 0]))] sz) [(h0, .inr (5, [.int u.1, .int u.2.1, .int u.2.2.1, .int u.2.2.2.1, .int u.2.2.2.2, .int 0]))]) (va_A [(h0, .inr (5, [.int 304, .int 0, .int 0, .int 0, .int 0, .int 0]))] sz)) 0 0 (va_A [(h0, .inr (5, [.int 304, .int 0, .int 0, .int 0, .int 0, .int 0]))] sz) := by
  refine Met.ofW (cc := cX5_writeWord) (maxL := 3) (ret := none) (by decide) rfl ?_
  intro p e s m args below meth c s₁ B hml hv
  obtain ⟨rfl, hsz, hP, hK, hD0⟩ := hv
  have hx := B.exec
  have hb := B.bytes
  have hr := B.returns
  have hts0 := atoms_spec (ws := Cond.code yX5_writeWord cX5_writeWord 3 none :: lw_G) B.pre
  have hG : ∀ w ∈ lw_G, w.before _ s = true := fun w h => hts0 w (List.mem_cons_of_mem _ h)
  have hown : s.vm.findClass RX5 = some m.cls := findClass_of_methodNamed B.named
  have hlocks := B.notSynchronized
  subst hsz
  have hD := hD0.self (sz := s.heap.size)
  generalize hAe : va_A [(h0, .inr (5, [.int 304, .int 0, .int 0, .int 0, .int 0, .int 0]))] s.heap.size = A at hD ⊢
  have hA : ∀ q : Nat, s.heap.size ≤ q → A q := fun q h => by rw [← hAe]; exact Or.inr h
  have hS : va_S A s.heap s.heap [] := va_S.rf
  have hP : va_P (dC, dI) vwCl [(h0, .inr (5, [.int 304, .int 0, .int 0, .int 0, .int 0, .int 0]))] s.heap := hP
  have hl := lv_entry ([.ref h0, .int x0, .int x1]) (n := 3) (Nat.le_of_ble_eq_true rfl)
  rw [lg_entry_eq]
  generalize (lg_sl ([.ref h0, .int x0, .int x1]) ++ List.replicate (3 - (lg_sl ([.ref h0, .int x0, .int x1])).length) Slot.unset).toArray = ls at hl ⊢
  have hl : lv_has ls 3 [(0, .ref h0), (1, .int x0), (2, .int x1)] := hl
  refine lv_iload_n hx hb dX5_writeWord_0 rfl (lv_at hl 1 rfl) ?_
  by_cases s1 : x0.toInt < 304 ∨ 316 < x0.toInt
  · skip
    refine lv_tableOut (tgt := 109) hx hb dX5_writeWord_1 s1 (by decide) ?_
    have hP9 := hP.sub (ws' := [(h0, .inr (5, [.int 304, .int 0, .int 0, .int 0, .int 0, .int 0]))]) [0] rfl
    have hD9 := hD.sub (ws' := [(h0, .inr (5, [.int 304, .int 0, .int 0, .int 0, .int 0, .int 0]))]) [0] (by decide) rfl
    have hK9 := hK.sub (tys' := []) [] rfl
    exact W.vret hx hb hr (fun t ht hW => ⟨⟨(304, 0, 0, 0, 0), rfl, ⟨iv_w (by decide : iv 304 304 304) (by decide) (by decide), iv_w (by decide : iv 0 0 0) (by decide) (by decide), iv_w (by decide : iv 0 0 0) (by decide) (by decide), iv_w (by decide : iv 0 0 0) (by decide) (by decide), iv_w (by decide : iv 0 0 0) (by decide) (by decide), trivial⟩, by rw [ht]; exact hP9, va_K.moved hW.alike hK9, hD9⟩, hS.F ht⟩) hS.2.2 dX5_writeWord_109
  · skip
    have s1x : x0 = 304 ∨ x0 = 305 ∨ x0 = 306 ∨ x0 = 307 ∨ x0 = 308 ∨ x0 = 309 ∨ x0 = 310 ∨ x0 = 311 ∨ x0 = 312 ∨ x0 = 313 ∨ x0 = 314 ∨ x0 = 315 ∨ x0 = 316 := by
      have := ix0
      have : x0.toInt = 304 ∨ x0.toInt = 305 ∨ x0.toInt = 306 ∨ x0.toInt = 307 ∨ x0.toInt = 308 ∨ x0.toInt = 309 ∨ x0.toInt = 310 ∨ x0.toInt = 311 ∨ x0.toInt = 312 ∨ x0.toInt = 313 ∨ x0.toInt = 314 ∨ x0.toInt = 315 ∨ x0.toInt = 316 := by omega
      rcases this with q | q | q | q | q | q | q | q | q | q | q | q | q
      · exact Or.inl (Int32.toInt_inj.mp q)
      · exact Or.inr (Or.inl (Int32.toInt_inj.mp q))
      · exact Or.inr (Or.inr (Or.inl (Int32.toInt_inj.mp q)))
      · exact Or.inr (Or.inr (Or.inr (Or.inl (Int32.toInt_inj.mp q))))
      · exact Or.inr (Or.inr (Or.inr (Or.inr (Or.inl (Int32.toInt_inj.mp q)))))
      · exact Or.inr (Or.inr (Or.inr (Or.inr (Or.inr (Or.inl (Int32.toInt_inj.mp q))))))
      · exact Or.inr (Or.inr (Or.inr (Or.inr (Or.inr (Or.inr (Or.inl (Int32.toInt_inj.mp q)))))))
      · exact Or.inr (Or.inr (Or.inr (Or.inr (Or.inr (Or.inr (Or.inr (Or.inl (Int32.toInt_inj.mp q))))))))
      · exact Or.inr (Or.inr (Or.inr (Or.inr (Or.inr (Or.inr (Or.inr (Or.inr (Or.inl (Int32.toInt_inj.mp q)))))))))
      · exact Or.inr (Or.inr (Or.inr (Or.inr (Or.inr (Or.inr (Or.inr (Or.inr (Or.inr (Or.inl (Int32.toInt_inj.mp q))))))))))
      · exact Or.inr (Or.inr (Or.inr (Or.inr (Or.inr (Or.inr (Or.inr (Or.inr (Or.inr (Or.inr (Or.inl (Int32.toInt_inj.mp q)))))))))))
      · exact Or.inr (Or.inr (Or.inr (Or.inr (Or.inr (Or.inr (Or.inr (Or.inr (Or.inr (Or.inr (Or.inr (Or.inl (Int32.toInt_inj.mp q))))))))))))
      · exact Or.inr (Or.inr (Or.inr (Or.inr (Or.inr (Or.inr (Or.inr (Or.inr (Or.inr (Or.inr (Or.inr (Or.inr ((Int32.toInt_inj.mp q)))))))))))))
    rcases s1x with rfl | rfl | rfl | rfl | rfl | rfl | rfl | rfl | rfl | rfl | rfl | rfl | rfl
    · skip
      refine lv_tableIn (off := 67) (tgt := 68) hx hb dX5_writeWord_1 (by decide) (by decide) (by decide) (by decide) ?_
      refine lv_aload_n hx hb dX5_writeWord_68 rfl (lv_at hl 0 rfl) ?_
      refine lv_iload_n hx hb dX5_writeWord_69 rfl (lv_at hl 1 rfl) ?_
      refine va_put (D := (dC, dI)) (ci := 5) (v := .int 304) (ty := .int) (C := RX5) (T := TX5) (N := 6) hx hb hG inGX5 tyX5 tyX5_ok nmX5 hown hK hP hD hS 0 rfl rfl 0 (by decide) (hG _ wd_70) (fun _ h9 => h9) rfl (by decide +kernel) rfl rfl (Nat.le_of_ble_eq_true rfl) dX5_writeWord_70 (fun H locs hP hD hS => ?_)
      have hP : va_P (dC, dI) vwCl [(h0, .inr (5, [.int 304, .int 0, .int 0, .int 0, .int 0, .int 0]))] H := hP
      have hD : va_D A [(h0, .inr (5, [.int 304, .int 0, .int 0, .int 0, .int 0, .int 0]))] := hD
      refine lv_aload_n hx hb dX5_writeWord_73 rfl (lv_at hl 0 rfl) ?_
      refine lv_iload_n hx hb dX5_writeWord_74 rfl (lv_at hl 2 rfl) ?_
      refine va_put (D := (dC, dI)) (ci := 5) (v := .int x1) (ty := .int) (C := RX5) (T := TX5) (N := 6) hx hb hG inGX5 tyX5 tyX5_ok nmX5 hown hK hP hD hS 0 rfl rfl 1 (by decide) (hG _ wd_71) (fun _ h9 => h9) rfl (by decide +kernel) rfl rfl (Nat.le_of_ble_eq_true rfl) dX5_writeWord_75 (fun H locs hP hD hS => ?_)
      have hP : va_P (dC, dI) vwCl [(h0, .inr (5, [.int 304, .int x1, .int 0, .int 0, .int 0, .int 0]))] H := hP
      have hD : va_D A [(h0, .inr (5, [.int 304, .int x1, .int 0, .int 0, .int 0, .int 0]))] := hD
      refine lv_goto (tgt := 109) hx hb dX5_writeWord_78 (by decide) ?_
      have hP9 := hP.sub (ws' := [(h0, .inr (5, [.int 304, .int x1, .int 0, .int 0, .int 0, .int 0]))]) [0] rfl
      have hD9 := hD.sub (ws' := [(h0, .inr (5, [.int 304, .int x1, .int 0, .int 0, .int 0, .int 0]))]) [0] (by decide) rfl
      have hK9 := hK.sub (tys' := []) [] rfl
      exact W.vret hx hb hr (fun t ht hW => ⟨⟨(304, x1, 0, 0, 0), rfl, ⟨iv_w (by decide : iv 304 304 304) (by decide) (by decide), iv_w ix1 (by decide) (by decide), iv_w (by decide : iv 0 0 0) (by decide) (by decide), iv_w (by decide : iv 0 0 0) (by decide) (by decide), iv_w (by decide : iv 0 0 0) (by decide) (by decide), trivial⟩, by rw [ht]; exact hP9, va_K.moved hW.alike hK9, hD9⟩, hS.F ht⟩) hS.2.2 dX5_writeWord_109
    · skip
      refine lv_tableIn (off := 108) (tgt := 109) hx hb dX5_writeWord_1 (by decide) (by decide) (by decide) (by decide) ?_
      have hP9 := hP.sub (ws' := [(h0, .inr (5, [.int 304, .int 0, .int 0, .int 0, .int 0, .int 0]))]) [0] rfl
      have hD9 := hD.sub (ws' := [(h0, .inr (5, [.int 304, .int 0, .int 0, .int 0, .int 0, .int 0]))]) [0] (by decide) rfl
      have hK9 := hK.sub (tys' := []) [] rfl
      exact W.vret hx hb hr (fun t ht hW => ⟨⟨(304, 0, 0, 0, 0), rfl, ⟨iv_w (by decide : iv 304 304 304) (by decide) (by decide), iv_w (by decide : iv 0 0 0) (by decide) (by decide), iv_w (by decide : iv 0 0 0) (by decide) (by decide), iv_w (by decide : iv 0 0 0) (by decide) (by decide), iv_w (by decide : iv 0 0 0) (by decide) (by decide), trivial⟩, by rw [ht]; exact hP9, va_K.moved hW.alike hK9, hD9⟩, hS.F ht⟩) hS.2.2 dX5_writeWord_109
    · skip
      refine lv_tableIn (off := 67) (tgt := 68) hx hb dX5_writeWord_1 (by decide) (by decide) (by decide) (by decide) ?_
      refine lv_aload_n hx hb dX5_writeWord_68 rfl (lv_at hl 0 rfl) ?_
      refine lv_iload_n hx hb dX5_writeWord_69 rfl (lv_at hl 1 rfl) ?_
      refine va_put (D := (dC, dI)) (ci := 5) (v := .int 306) (ty := .int) (C := RX5) (T := TX5) (N := 6) hx hb hG inGX5 tyX5 tyX5_ok nmX5 hown hK hP hD hS 0 rfl rfl 0 (by decide) (hG _ wd_70) (fun _ h9 => h9) rfl (by decide +kernel) rfl rfl (Nat.le_of_ble_eq_true rfl) dX5_writeWord_70 (fun H locs hP hD hS => ?_)
      have hP : va_P (dC, dI) vwCl [(h0, .inr (5, [.int 306, .int 0, .int 0, .int 0, .int 0, .int 0]))] H := hP
      have hD : va_D A [(h0, .inr (5, [.int 306, .int 0, .int 0, .int 0, .int 0, .int 0]))] := hD
      refine lv_aload_n hx hb dX5_writeWord_73 rfl (lv_at hl 0 rfl) ?_
      refine lv_iload_n hx hb dX5_writeWord_74 rfl (lv_at hl 2 rfl) ?_
      refine va_put (D := (dC, dI)) (ci := 5) (v := .int x1) (ty := .int) (C := RX5) (T := TX5) (N := 6) hx hb hG inGX5 tyX5 tyX5_ok nmX5 hown hK hP hD hS 0 rfl rfl 1 (by decide) (hG _ wd_71) (fun _ h9 => h9) rfl (by decide +kernel) rfl rfl (Nat.le_of_ble_eq_true rfl) dX5_writeWord_75 (fun H locs hP hD hS => ?_)
      have hP : va_P (dC, dI) vwCl [(h0, .inr (5, [.int 306, .int x1, .int 0, .int 0, .int 0, .int 0]))] H := hP
      have hD : va_D A [(h0, .inr (5, [.int 306, .int x1, .int 0, .int 0, .int 0, .int 0]))] := hD
      refine lv_goto (tgt := 109) hx hb dX5_writeWord_78 (by decide) ?_
      have hP9 := hP.sub (ws' := [(h0, .inr (5, [.int 306, .int x1, .int 0, .int 0, .int 0, .int 0]))]) [0] rfl
      have hD9 := hD.sub (ws' := [(h0, .inr (5, [.int 306, .int x1, .int 0, .int 0, .int 0, .int 0]))]) [0] (by decide) rfl
      have hK9 := hK.sub (tys' := []) [] rfl
      exact W.vret hx hb hr (fun t ht hW => ⟨⟨(306, x1, 0, 0, 0), rfl, ⟨iv_w (by decide : iv 306 306 306) (by decide) (by decide), iv_w ix1 (by decide) (by decide), iv_w (by decide : iv 0 0 0) (by decide) (by decide), iv_w (by decide : iv 0 0 0) (by decide) (by decide), iv_w (by decide : iv 0 0 0) (by decide) (by decide), trivial⟩, by rw [ht]; exact hP9, va_K.moved hW.alike hK9, hD9⟩, hS.F ht⟩) hS.2.2 dX5_writeWord_109
    · skip
      refine lv_tableIn (off := 108) (tgt := 109) hx hb dX5_writeWord_1 (by decide) (by decide) (by decide) (by decide) ?_
      have hP9 := hP.sub (ws' := [(h0, .inr (5, [.int 304, .int 0, .int 0, .int 0, .int 0, .int 0]))]) [0] rfl
      have hD9 := hD.sub (ws' := [(h0, .inr (5, [.int 304, .int 0, .int 0, .int 0, .int 0, .int 0]))]) [0] (by decide) rfl
      have hK9 := hK.sub (tys' := []) [] rfl
      exact W.vret hx hb hr (fun t ht hW => ⟨⟨(304, 0, 0, 0, 0), rfl, ⟨iv_w (by decide : iv 304 304 304) (by decide) (by decide), iv_w (by decide : iv 0 0 0) (by decide) (by decide), iv_w (by decide : iv 0 0 0) (by decide) (by decide), iv_w (by decide : iv 0 0 0) (by decide) (by decide), iv_w (by decide : iv 0 0 0) (by decide) (by decide), trivial⟩, by rw [ht]; exact hP9, va_K.moved hW.alike hK9, hD9⟩, hS.F ht⟩) hS.2.2 dX5_writeWord_109
    · skip
      refine lv_tableIn (off := 67) (tgt := 68) hx hb dX5_writeWord_1 (by decide) (by decide) (by decide) (by decide) ?_
      refine lv_aload_n hx hb dX5_writeWord_68 rfl (lv_at hl 0 rfl) ?_
      refine lv_iload_n hx hb dX5_writeWord_69 rfl (lv_at hl 1 rfl) ?_
      refine va_put (D := (dC, dI)) (ci := 5) (v := .int 308) (ty := .int) (C := RX5) (T := TX5) (N := 6) hx hb hG inGX5 tyX5 tyX5_ok nmX5 hown hK hP hD hS 0 rfl rfl 0 (by decide) (hG _ wd_70) (fun _ h9 => h9) rfl (by decide +kernel) rfl rfl (Nat.le_of_ble_eq_true rfl) dX5_writeWord_70 (fun H locs hP hD hS => ?_)
      have hP : va_P (dC, dI) vwCl [(h0, .inr (5, [.int 308, .int 0, .int 0, .int 0, .int 0, .int 0]))] H := hP
      have hD : va_D A [(h0, .inr (5, [.int 308, .int 0, .int 0, .int 0, .int 0, .int 0]))] := hD
      refine lv_aload_n hx hb dX5_writeWord_73 rfl (lv_at hl 0 rfl) ?_
      refine lv_iload_n hx hb dX5_writeWord_74 rfl (lv_at hl 2 rfl) ?_
      refine va_put (D := (dC, dI)) (ci := 5) (v := .int x1) (ty := .int) (C := RX5) (T := TX5) (N := 6) hx hb hG inGX5 tyX5 tyX5_ok nmX5 hown hK hP hD hS 0 rfl rfl 1 (by decide) (hG _ wd_71) (fun _ h9 => h9) rfl (by decide +kernel) rfl rfl (Nat.le_of_ble_eq_true rfl) dX5_writeWord_75 (fun H locs hP hD hS => ?_)
      have hP : va_P (dC, dI) vwCl [(h0, .inr (5, [.int 308, .int x1, .int 0, .int 0, .int 0, .int 0]))] H := hP
      have hD : va_D A [(h0, .inr (5, [.int 308, .int x1, .int 0, .int 0, .int 0, .int 0]))] := hD
      refine lv_goto (tgt := 109) hx hb dX5_writeWord_78 (by decide) ?_
      have hP9 := hP.sub (ws' := [(h0, .inr (5, [.int 308, .int x1, .int 0, .int 0, .int 0, .int 0]))]) [0] rfl
      have hD9 := hD.sub (ws' := [(h0, .inr (5, [.int 308, .int x1, .int 0, .int 0, .int 0, .int 0]))]) [0] (by decide) rfl
      have hK9 := hK.sub (tys' := []) [] rfl
      exact W.vret hx hb hr (fun t ht hW => ⟨⟨(308, x1, 0, 0, 0), rfl, ⟨iv_w (by decide : iv 308 308 308) (by decide) (by decide), iv_w ix1 (by decide) (by decide), iv_w (by decide : iv 0 0 0) (by decide) (by decide), iv_w (by decide : iv 0 0 0) (by decide) (by decide), iv_w (by decide : iv 0 0 0) (by decide) (by decide), trivial⟩, by rw [ht]; exact hP9, va_K.moved hW.alike hK9, hD9⟩, hS.F ht⟩) hS.2.2 dX5_writeWord_109
    · skip
      refine lv_tableIn (off := 108) (tgt := 109) hx hb dX5_writeWord_1 (by decide) (by decide) (by decide) (by decide) ?_
      have hP9 := hP.sub (ws' := [(h0, .inr (5, [.int 304, .int 0, .int 0, .int 0, .int 0, .int 0]))]) [0] rfl
      have hD9 := hD.sub (ws' := [(h0, .inr (5, [.int 304, .int 0, .int 0, .int 0, .int 0, .int 0]))]) [0] (by decide) rfl
      have hK9 := hK.sub (tys' := []) [] rfl
      exact W.vret hx hb hr (fun t ht hW => ⟨⟨(304, 0, 0, 0, 0), rfl, ⟨iv_w (by decide : iv 304 304 304) (by decide) (by decide), iv_w (by decide : iv 0 0 0) (by decide) (by decide), iv_w (by decide : iv 0 0 0) (by decide) (by decide), iv_w (by decide : iv 0 0 0) (by decide) (by decide), iv_w (by decide : iv 0 0 0) (by decide) (by decide), trivial⟩, by rw [ht]; exact hP9, va_K.moved hW.alike hK9, hD9⟩, hS.F ht⟩) hS.2.2 dX5_writeWord_109
    · skip
      refine lv_tableIn (off := 108) (tgt := 109) hx hb dX5_writeWord_1 (by decide) (by decide) (by decide) (by decide) ?_
      have hP9 := hP.sub (ws' := [(h0, .inr (5, [.int 304, .int 0, .int 0, .int 0, .int 0, .int 0]))]) [0] rfl
      have hD9 := hD.sub (ws' := [(h0, .inr (5, [.int 304, .int 0, .int 0, .int 0, .int 0, .int 0]))]) [0] (by decide) rfl
      have hK9 := hK.sub (tys' := []) [] rfl
      exact W.vret hx hb hr (fun t ht hW => ⟨⟨(304, 0, 0, 0, 0), rfl, ⟨iv_w (by decide : iv 304 304 304) (by decide) (by decide), iv_w (by decide : iv 0 0 0) (by decide) (by decide), iv_w (by decide : iv 0 0 0) (by decide) (by decide), iv_w (by decide : iv 0 0 0) (by decide) (by decide), iv_w (by decide : iv 0 0 0) (by decide) (by decide), trivial⟩, by rw [ht]; exact hP9, va_K.moved hW.alike hK9, hD9⟩, hS.F ht⟩) hS.2.2 dX5_writeWord_109
    · skip
      refine lv_tableIn (off := 108) (tgt := 109) hx hb dX5_writeWord_1 (by decide) (by decide) (by decide) (by decide) ?_
      have hP9 := hP.sub (ws' := [(h0, .inr (5, [.int 304, .int 0, .int 0, .int 0, .int 0, .int 0]))]) [0] rfl
      have hD9 := hD.sub (ws' := [(h0, .inr (5, [.int 304, .int 0, .int 0, .int 0, .int 0, .int 0]))]) [0] (by decide) rfl
      have hK9 := hK.sub (tys' := []) [] rfl
      exact W.vret hx hb hr (fun t ht hW => ⟨⟨(304, 0, 0, 0, 0), rfl, ⟨iv_w (by decide : iv 304 304 304) (by decide) (by decide), iv_w (by decide : iv 0 0 0) (by decide) (by decide), iv_w (by decide : iv 0 0 0) (by decide) (by decide), iv_w (by decide : iv 0 0 0) (by decide) (by decide), iv_w (by decide : iv 0 0 0) (by decide) (by decide), trivial⟩, by rw [ht]; exact hP9, va_K.moved hW.alike hK9, hD9⟩, hS.F ht⟩) hS.2.2 dX5_writeWord_109
    · skip
      refine lv_tableIn (off := 80) (tgt := 81) hx hb dX5_writeWord_1 (by decide) (by decide) (by decide) (by decide) ?_
      refine lv_aload_n hx hb dX5_writeWord_81 rfl (lv_at hl 0 rfl) ?_
      refine lv_iload_n hx hb dX5_writeWord_82 rfl (lv_at hl 2 rfl) ?_
      refine va_put (D := (dC, dI)) (ci := 5) (v := .int x1) (ty := .int) (C := RX5) (T := TX5) (N := 6) hx hb hG inGX5 tyX5 tyX5_ok nmX5 hown hK hP hD hS 0 rfl rfl 2 (by decide) (hG _ wd_72) (fun _ h9 => h9) rfl (by decide +kernel) rfl rfl (Nat.le_of_ble_eq_true rfl) dX5_writeWord_83 (fun H locs hP hD hS => ?_)
      have hP : va_P (dC, dI) vwCl [(h0, .inr (5, [.int 304, .int 0, .int x1, .int 0, .int 0, .int 0]))] H := hP
      have hD : va_D A [(h0, .inr (5, [.int 304, .int 0, .int x1, .int 0, .int 0, .int 0]))] := hD
      refine lv_aload_n hx hb dX5_writeWord_86 rfl (lv_at hl 0 rfl) ?_
      have hPc := hP.sub (ws' := [(h0, .inr (5, [.int 304, .int 0, .int x1, .int 0, .int 0, .int 0]))]) [0] rfl
      have hDc := hD.sub (ws' := [(h0, .inr (5, [.int 304, .int 0, .int x1, .int 0, .int 0, .int 0]))]) [0] (by decide) rfl
      have hKc := hK.sub (tys' := []) [] rfl
      have hFc := va_free (wc := [(h0, .inr (5, [.int 304, .int 0, .int x1, .int 0, .int 0, .int 0]))]) hD hS hA [0] rfl
      refine va_callv (va_runV (As := []) (rest := []) ⟨hx, hb, hml, hown, hG⟩ (cX5_multiply_2 l dC dI h0 H.size x1 ix1) (cwV 0 hG (gV wd_754 wd_756 wp_29 wd_4 wd_757) rfl rfl rfl (by decide +kernel) ⟨Nat.le_of_ble_eq_true rfl, Nat.le_of_ble_eq_true rfl⟩) ⟨fun a U g mk q => by obtain ⟨q0, q1, qP, qK, qD⟩ := q; exact ⟨q0, q1, qP, va_K.moved (u := U) (U := U.calling g mk a) (Vm.Alike.refl U.vm) qK, qD⟩, va_recv hKc hPc (ci := 5) (q0 := 0) rfl rfl, fun U hU hW => ⟨rfl, by rw [hU], by rw [hU]; exact hPc, va_K.moved hW.alike hKc, hDc.weaken (fun _ _ _ _ => trivial)⟩⟩ rfl rfl hl.1 rfl (lv_room (Nat.le_of_ble_eq_true rfl)) dX5_writeWord_87 ⟨by decide, by decide⟩) hS (fun q _ h => hFc q h) hFc (fun u3 t H1 locs ht hvm hw hB hz1 hk1 hS => ?_)
      obtain ⟨u3_0, u3_1⟩ := u3
      have hw : iv u3_0 0 65535 ∧ iv u3_1 0 65535 ∧ True := hw
      obtain ⟨iu3_0, iu3_1, -⟩ := hw
      obtain ⟨hP1, hK1, hD1⟩ := hB
      rw [ht] at hP1
      have hK1 := va_K.moved hvm.symm hK1
      obtain ⟨hP, hD⟩ := va_join (wr := []) (w1 := [(h0, .inr (5, [.int 304, .int 0, .int x1, .int u3_0, .int u3_1, .int 0]))]) hP hD [0] [] rfl rfl (by decide) (by decide) hk1 hFc hP1 hD1
      have hK := (hK.sub (tys' := []) [] rfl).app hK1
      generalize H1 = H at hP hS ⊢
      have hP : va_P (dC, dI) vwCl [(h0, .inr (5, [.int 304, .int 0, .int x1, .int u3_0, .int u3_1, .int 0]))] H := hP
      have hD : va_D A [(h0, .inr (5, [.int 304, .int 0, .int x1, .int u3_0, .int u3_1, .int 0]))] := hD
      have hK : va_K (dC, dI) vwCl [] s := hK
      refine lv_goto (tgt := 109) hx hb dX5_writeWord_90 (by decide) ?_
      have hP9 := hP.sub (ws' := [(h0, .inr (5, [.int 304, .int 0, .int x1, .int u3_0, .int u3_1, .int 0]))]) [0] rfl
      have hD9 := hD.sub (ws' := [(h0, .inr (5, [.int 304, .int 0, .int x1, .int u3_0, .int u3_1, .int 0]))]) [0] (by decide) rfl
      have hK9 := hK.sub (tys' := []) [] rfl
      exact W.vret hx hb hr (fun t ht hW => ⟨⟨(304, 0, x1, u3_0, u3_1), rfl, ⟨iv_w (by decide : iv 304 304 304) (by decide) (by decide), iv_w (by decide : iv 0 0 0) (by decide) (by decide), iv_w ix1 (by decide) (by decide), iv_w iu3_0 (by decide) (by decide), iv_w iu3_1 (by decide) (by decide), trivial⟩, by rw [ht]; exact hP9, va_K.moved hW.alike hK9, hD9⟩, hS.F ht⟩) hS.2.2 dX5_writeWord_109
    · skip
      refine lv_tableIn (off := 108) (tgt := 109) hx hb dX5_writeWord_1 (by decide) (by decide) (by decide) (by decide) ?_
      have hP9 := hP.sub (ws' := [(h0, .inr (5, [.int 304, .int 0, .int 0, .int 0, .int 0, .int 0]))]) [0] rfl
      have hD9 := hD.sub (ws' := [(h0, .inr (5, [.int 304, .int 0, .int 0, .int 0, .int 0, .int 0]))]) [0] (by decide) rfl
      have hK9 := hK.sub (tys' := []) [] rfl
      exact W.vret hx hb hr (fun t ht hW => ⟨⟨(304, 0, 0, 0, 0), rfl, ⟨iv_w (by decide : iv 304 304 304) (by decide) (by decide), iv_w (by decide : iv 0 0 0) (by decide) (by decide), iv_w (by decide : iv 0 0 0) (by decide) (by decide), iv_w (by decide : iv 0 0 0) (by decide) (by decide), iv_w (by decide : iv 0 0 0) (by decide) (by decide), trivial⟩, by rw [ht]; exact hP9, va_K.moved hW.alike hK9, hD9⟩, hS.F ht⟩) hS.2.2 dX5_writeWord_109
    · skip
      refine lv_tableIn (off := 92) (tgt := 93) hx hb dX5_writeWord_1 (by decide) (by decide) (by decide) (by decide) ?_
      refine lv_aload_n hx hb dX5_writeWord_93 rfl (lv_at hl 0 rfl) ?_
      refine lv_iload_n hx hb dX5_writeWord_94 rfl (lv_at hl 2 rfl) ?_
      refine va_put (D := (dC, dI)) (ci := 5) (v := .int x1) (ty := .int) (C := RX5) (T := TX5) (N := 6) hx hb hG inGX5 tyX5 tyX5_ok nmX5 hown hK hP hD hS 0 rfl rfl 3 (by decide) (hG _ wd_73) (fun _ h9 => h9) rfl (by decide +kernel) rfl rfl (Nat.le_of_ble_eq_true rfl) dX5_writeWord_95 (fun H locs hP hD hS => ?_)
      have hP : va_P (dC, dI) vwCl [(h0, .inr (5, [.int 304, .int 0, .int 0, .int x1, .int 0, .int 0]))] H := hP
      have hD : va_D A [(h0, .inr (5, [.int 304, .int 0, .int 0, .int x1, .int 0, .int 0]))] := hD
      refine lv_goto (tgt := 109) hx hb dX5_writeWord_98 (by decide) ?_
      have hP9 := hP.sub (ws' := [(h0, .inr (5, [.int 304, .int 0, .int 0, .int x1, .int 0, .int 0]))]) [0] rfl
      have hD9 := hD.sub (ws' := [(h0, .inr (5, [.int 304, .int 0, .int 0, .int x1, .int 0, .int 0]))]) [0] (by decide) rfl
      have hK9 := hK.sub (tys' := []) [] rfl
      exact W.vret hx hb hr (fun t ht hW => ⟨⟨(304, 0, 0, x1, 0), rfl, ⟨iv_w (by decide : iv 304 304 304) (by decide) (by decide), iv_w (by decide : iv 0 0 0) (by decide) (by decide), iv_w (by decide : iv 0 0 0) (by decide) (by decide), iv_w ix1 (by decide) (by decide), iv_w (by decide : iv 0 0 0) (by decide) (by decide), trivial⟩, by rw [ht]; exact hP9, va_K.moved hW.alike hK9, hD9⟩, hS.F ht⟩) hS.2.2 dX5_writeWord_109
    · skip
      refine lv_tableIn (off := 108) (tgt := 109) hx hb dX5_writeWord_1 (by decide) (by decide) (by decide) (by decide) ?_
      have hP9 := hP.sub (ws' := [(h0, .inr (5, [.int 304, .int 0, .int 0, .int 0, .int 0, .int 0]))]) [0] rfl
      have hD9 := hD.sub (ws' := [(h0, .inr (5, [.int 304, .int 0, .int 0, .int 0, .int 0, .int 0]))]) [0] (by decide) rfl
      have hK9 := hK.sub (tys' := []) [] rfl
      exact W.vret hx hb hr (fun t ht hW => ⟨⟨(304, 0, 0, 0, 0), rfl, ⟨iv_w (by decide : iv 304 304 304) (by decide) (by decide), iv_w (by decide : iv 0 0 0) (by decide) (by decide), iv_w (by decide : iv 0 0 0) (by decide) (by decide), iv_w (by decide : iv 0 0 0) (by decide) (by decide), iv_w (by decide : iv 0 0 0) (by decide) (by decide), trivial⟩, by rw [ht]; exact hP9, va_K.moved hW.alike hK9, hD9⟩, hS.F ht⟩) hS.2.2 dX5_writeWord_109
    · skip
      refine lv_tableIn (off := 100) (tgt := 101) hx hb dX5_writeWord_1 (by decide) (by decide) (by decide) (by decide) ?_
      refine lv_aload_n hx hb dX5_writeWord_101 rfl (lv_at hl 0 rfl) ?_
      refine lv_iload_n hx hb dX5_writeWord_102 rfl (lv_at hl 2 rfl) ?_
      refine va_put (D := (dC, dI)) (ci := 5) (v := .int x1) (ty := .int) (C := RX5) (T := TX5) (N := 6) hx hb hG inGX5 tyX5 tyX5_ok nmX5 hown hK hP hD hS 0 rfl rfl 4 (by decide) (hG _ wd_74) (fun _ h9 => h9) rfl (by decide +kernel) rfl rfl (Nat.le_of_ble_eq_true rfl) dX5_writeWord_103 (fun H locs hP hD hS => ?_)
      have hP : va_P (dC, dI) vwCl [(h0, .inr (5, [.int 304, .int 0, .int 0, .int 0, .int x1, .int 0]))] H := hP
      have hD : va_D A [(h0, .inr (5, [.int 304, .int 0, .int 0, .int 0, .int x1, .int 0]))] := hD
      refine lv_goto (tgt := 109) hx hb dX5_writeWord_106 (by decide) ?_
      have hP9 := hP.sub (ws' := [(h0, .inr (5, [.int 304, .int 0, .int 0, .int 0, .int x1, .int 0]))]) [0] rfl
      have hD9 := hD.sub (ws' := [(h0, .inr (5, [.int 304, .int 0, .int 0, .int 0, .int x1, .int 0]))]) [0] (by decide) rfl
      have hK9 := hK.sub (tys' := []) [] rfl
      exact W.vret hx hb hr (fun t ht hW => ⟨⟨(304, 0, 0, 0, x1), rfl, ⟨iv_w (by decide : iv 304 304 304) (by decide) (by decide), iv_w (by decide : iv 0 0 0) (by decide) (by decide), iv_w (by decide : iv 0 0 0) (by decide) (by decide), iv_w (by decide : iv 0 0 0) (by decide) (by decide), iv_w ix1 (by decide) (by decide), trivial⟩, by rw [ht]; exact hP9, va_K.moved hW.alike hK9, hD9⟩, hS.F ht⟩) hS.2.2 dX5_writeWord_109
set_option maxHeartbeats 4000000 in
set_option maxRecDepth 100000 in
theorem cX1_writeThing_2 (l : Launch) (dC : Nat → ClassId) (dI : Nat → Nat → Nat) (h0 h1 h2 h3 h4 h5 h6 : Nat) (y0 y1 : ClassId) (sz : Nat) (x0 x1 : Int32) (ix0 : iv x0 0 511) (ix1 : iv x1 0 255) : Met l yX1_writeThing (Cond.code yX1_writeThing cX1_writeThing 3 none :: lw_G) ({ frames := 2, cells := 0, slots := 0, locals := 44 }) (va_Pc [.ref h0, .int x0, .int x1] (fun U => U.heap.size = sz ∧ va_P (dC, dI) vwCl [(h0, .inr (1, [.ref h1, .ref h2, .ref h3, .ref h4])), (h4, .inr (9, [.ref h5, .ref h6, .int 0, .int 0, .int 0, .int 0])), (h6, .inl (y0, 3, .inl (fun _ => 0))), (h5, .inl (y1, 3, .inl (fun _ => 0))), (h3, .inr (5, [.int 304, .int 0, .int 0, .int 0, .int 0, .int 0]))] U.heap ∧ va_K (dC, dI) vwCl [(y0, .int), (y1, .int)] U ∧ va_D (fun _ => True) [(h0, .inr (1, [.ref h1, .ref h2, .ref h3, .ref h4])), (h4, .inr (9, [.ref h5, .ref h6, .int 0, .int 0, .int 0, .int 0])), (h6, .inl (y0, 3, .inl (fun _ => 0))), (h5, .inl (y1, 3, .inl (fun _ => 0))), (h3, .inr (5, [.int 304, .int 0, .int 0, .int 0, .int 0, .int 0]))])) (va_Qv (fun (u : Int32 × Int32 × (Nat → Int32) × (Nat → Int32) × Int32 × Int32 × Int32 × Int32 × Int32) => iv u.1 0 255 ∧ iv u.2.1 0 255 ∧ (∀ j, iv (u.2.2.1 j) 0 255) ∧ (∀ j, iv (u.2.2.2.1 j) 0 17) ∧ iv u.2.2.2.2.1 304 308 ∧ iv u.2.2.2.2.2.1 0 255 ∧ iv u.2.2.2.2.2.2.1 0 255 ∧ iv u.2.2.2.2.2.2.2.1 0 65535 ∧ iv u.2.2.2.2.2.2.2.2 0 65535 ∧ True) (fun (u : Int32 × Int32 × (Nat → Int32) × (Nat → Int32) × Int32 × Int32 × Int32 × Int32 × Int32) (t : State) => va_P (dC, dI) vwCl [(h0, .inr (1, [.ref h1, .ref h2, .ref h3, .ref h4])), (h4, .inr (9, [.ref h5, .ref h6, .int u.1, .int u.2.1, .int 0, .int 0])), (h6, .inl (y0, 3, .inl u.2.2.1)), (h5, .inl (y1, 3, .inl u.2.2.2.1)), (h3, .inr (5, [.int u.2.2.2.2.1, .int u.2.2.2.2.2.1, .int u.2.2.2.2.2.2.1, .int u.2.2.2.2.2.2.2.1, .int u.2.2.2.2.2.2.2.2, .int 0]))] t.heap ∧ va_K (dC, dI) vwCl [(y0, .int), (y1, .int)] t ∧ va_D (va_A [(h0, .inr (1, [.ref h1, .ref h2, .ref h3, .ref h4])), (h4, .inr (9, [.ref h5, .ref h6, .int 0, .int 0, .int 0, .int 0])), (h6, .inl (y0, 3, .inl (fun _ => 0))), (h5, .inl (y1, 3, .inl (fun _ => 0))), (h3, .inr (5, [.int 304, .int 0, .int 0, .int 0, .int 0, .int 0]))] sz) [(h0, .inr (1, [.ref h1, .ref h2, .ref h3, .ref h4])), (h4, .inr (9, [.ref h5, .ref h6, .int u.1, .int u.2.1, .int 0, .int 0])), (h6, .inl (y0, 3, .inl u.2.2.1)), (h5, .inl (y1, 3, .inl u.2.2.2.1)), (h3, .inr (5, [.int u.2.2.2.2.1, .int u.2.2.2.2.2.1, .int u.2.2.2.2.2.2.1, .int u.2.2.2.2.2.2.2.1, .int u.2.2.2.2.2.2.2.2, .int 0]))]) (va_A [(h0, .inr (1, [.ref h1, .ref h2, .ref h3, .ref h4])), (h4, .inr (9, [.ref h5, .ref h6, .int 0, .int 0, .int 0, .int 0])), (h6, .inl (y0, 3, .inl (fun _ => 0))), (h5, .inl (y1, 3, .inl (fun _ => 0))), (h3, .inr (5, [.int 304, .int 0, .int 0, .int 0, .int 0, .int 0]))] sz)) 0 0 (va_A [(h0, .inr (1, [.ref h1, .ref h2, .ref h3, .ref h4])), (h4, .inr (9, [.ref h5, .ref h6, .int 0, .int 0, .int 0, .int 0])), (h6, .inl (y0, 3, .inl (fun _ => 0))), (h5, .inl (y1, 3, .inl (fun _ => 0))), (h3, .inr (5, [.int 304, .int 0, .int 0, .int 0, .int 0, .int 0]))] sz) := by
  refine Met.ofW (cc := cX1_writeThing) (maxL := 3) (ret := none) (by decide) rfl ?_
  intro p e s m args below meth c s₁ B hml hv
  obtain ⟨rfl, hsz, hP, hK, hD0⟩ := hv
  have hx := B.exec
  have hb := B.bytes
  have hr := B.returns
  have hts0 := atoms_spec (ws := Cond.code yX1_writeThing cX1_writeThing 3 none :: lw_G) B.pre
  have hG : ∀ w ∈ lw_G, w.before _ s = true := fun w h => hts0 w (List.mem_cons_of_mem _ h)
  have hown : s.vm.findClass RX1 = some m.cls := findClass_of_methodNamed B.named
  have hlocks := B.notSynchronized
  subst hsz
  have hD := hD0.self (sz := s.heap.size)
  generalize hAe : va_A [(h0, .inr (1, [.ref h1, .ref h2, .ref h3, .ref h4])), (h4, .inr (9, [.ref h5, .ref h6, .int 0, .int 0, .int 0, .int 0])), (h6, .inl (y0, 3, .inl (fun _ => 0))), (h5, .inl (y1, 3, .inl (fun _ => 0))), (h3, .inr (5, [.int 304, .int 0, .int 0, .int 0, .int 0, .int 0]))] s.heap.size = A at hD ⊢
  have hA : ∀ q : Nat, s.heap.size ≤ q → A q := fun q h => by rw [← hAe]; exact Or.inr h
  have hS : va_S A s.heap s.heap [] := va_S.rf
  have hP : va_P (dC, dI) vwCl [(h0, .inr (1, [.ref h1, .ref h2, .ref h3, .ref h4])), (h4, .inr (9, [.ref h5, .ref h6, .int 0, .int 0, .int 0, .int 0])), (h6, .inl (y0, 3, .inl (fun _ => 0))), (h5, .inl (y1, 3, .inl (fun _ => 0))), (h3, .inr (5, [.int 304, .int 0, .int 0, .int 0, .int 0, .int 0]))] s.heap := hP
  have hl := lv_entry ([.ref h0, .int x0, .int x1]) (n := 3) (Nat.le_of_ble_eq_true rfl)
  rw [lg_entry_eq]
  generalize (lg_sl ([.ref h0, .int x0, .int x1]) ++ List.replicate (3 - (lg_sl ([.ref h0, .int x0, .int x1])).length) Slot.unset).toArray = ls at hl ⊢
  have hl : lv_has ls 3 [(0, .ref h0), (1, .int x0), (2, .int x1)] := hl
  refine lv_iload_n hx hb dX1_writeThing_0 rfl (lv_at hl 1 rfl) ?_
  refine lv_sipush (v := 302) hx hb dX1_writeThing_1 (by decide) ?_
  refine lv_icmp_ne (tgt := 18) hx hb dX1_writeThing_4 (by decide) (fun c1 => ?_) (fun c1 => ?_)
  · skip
    refine lv_iload_n hx hb dX1_writeThing_18 rfl (lv_at hl 1 rfl) ?_
    refine lv_sipush (v := 304) hx hb dX1_writeThing_19 (by decide) ?_
    refine lv_icmp_lt (tgt := 44) hx hb dX1_writeThing_22 (by decide) (fun c2 => ?_) (fun c2 => ?_)
    · skip
      have j3 : iv x0 0 303 := iv_ltL ix0 (by decide : iv 304 304 304) c2 (by decide)
      refine lv_aload_n hx hb dX1_writeThing_44 rfl (lv_at hl 0 rfl) ?_
      refine va_get (D := (dC, dI)) (ci := 1) (v := .ref h4) (C := RX1) (T := TX1) (N := 4) hx hb hG inGX1 hown hK hP 0 rfl rfl 3 (by decide) (hG _ wd_117) (fun _ h9 => h9) rfl dX1_writeThing_45 ?_
      refine lv_iload_n hx hb dX1_writeThing_48 rfl (lv_at hl 1 rfl) ?_
      refine lv_iload_n hx hb dX1_writeThing_49 rfl (lv_at hl 2 rfl) ?_
      have hPc := hP.sub (ws' := [(h4, .inr (9, [.ref h5, .ref h6, .int 0, .int 0, .int 0, .int 0]))]) [1] rfl
      have hDc := hD.sub (ws' := [(h4, .inr (9, [.ref h5, .ref h6, .int 0, .int 0, .int 0, .int 0]))]) [1] (by decide) rfl
      have hKc := hK.sub (tys' := []) [] rfl
      have hFc := va_free (wc := [(h4, .inr (9, [.ref h5, .ref h6, .int 0, .int 0, .int 0, .int 0]))]) hD hS hA [1] rfl
      refine va_callv (va_runV (As := [.int x0, .int x1]) (rest := []) ⟨hx, hb, hml, hown, hG⟩ (cX9_writeWord_3 l dC dI h4 h5 h6 s.heap.size x0 x1 j3 ix1) (cwV 2 hG (gV wd_759 wd_760 wd_761 wd_5 wd_762) rfl rfl rfl (by decide +kernel) ⟨Nat.le_of_ble_eq_true rfl, Nat.le_of_ble_eq_true rfl⟩) ⟨fun a U g mk q => by obtain ⟨q0, q1, qP, qK, qD⟩ := q; exact ⟨q0, q1, qP, va_K.moved (u := U) (U := U.calling g mk a) (Vm.Alike.refl U.vm) qK, qD⟩, va_recv hKc hPc (ci := 9) (q0 := 0) rfl rfl, fun U hU hW => ⟨rfl, by rw [hU], by rw [hU]; exact hPc, va_K.moved hW.alike hKc, hDc.weaken (fun _ _ _ _ => trivial)⟩⟩ rfl rfl hl.1 rfl (lv_room (Nat.le_of_ble_eq_true rfl)) dX1_writeThing_50 ⟨by decide, by decide⟩) hS (fun q _ h => hFc q h) hFc (fun u5 t H1 locs ht hvm hw hB hz1 hk1 hS => ?_)
      obtain ⟨hP1, hK1, hD1⟩ := hB
      rw [ht] at hP1
      have hK1 := va_K.moved hvm.symm hK1
      obtain ⟨hP, hD⟩ := va_join (wr := [(h0, .inr (1, [.ref h1, .ref h2, .ref h3, .ref h4])), (h6, .inl (y0, 3, .inl (fun _ => 0))), (h5, .inl (y1, 3, .inl (fun _ => 0))), (h3, .inr (5, [.int 304, .int 0, .int 0, .int 0, .int 0, .int 0]))]) (w1 := [(h4, .inr (9, [.ref h5, .ref h6, .int 0, .int 0, .int 0, .int 0]))]) hP hD [1] [0, 2, 3, 4] rfl rfl (by decide) (by decide) hk1 hFc hP1 hD1
      have hK := (hK.sub (tys' := [(y0, .int), (y1, .int)]) [0, 1] rfl).app hK1
      generalize H1 = H at hP hS ⊢
      have hP : va_P (dC, dI) vwCl [(h0, .inr (1, [.ref h1, .ref h2, .ref h3, .ref h4])), (h6, .inl (y0, 3, .inl (fun _ => 0))), (h5, .inl (y1, 3, .inl (fun _ => 0))), (h3, .inr (5, [.int 304, .int 0, .int 0, .int 0, .int 0, .int 0])), (h4, .inr (9, [.ref h5, .ref h6, .int 0, .int 0, .int 0, .int 0]))] H := hP
      have hD : va_D A [(h0, .inr (1, [.ref h1, .ref h2, .ref h3, .ref h4])), (h6, .inl (y0, 3, .inl (fun _ => 0))), (h5, .inl (y1, 3, .inl (fun _ => 0))), (h3, .inr (5, [.int 304, .int 0, .int 0, .int 0, .int 0, .int 0])), (h4, .inr (9, [.ref h5, .ref h6, .int 0, .int 0, .int 0, .int 0]))] := hD
      have hK : va_K (dC, dI) vwCl [(y0, .int), (y1, .int)] s := hK
      have hP9 := hP.sub (ws' := [(h0, .inr (1, [.ref h1, .ref h2, .ref h3, .ref h4])), (h4, .inr (9, [.ref h5, .ref h6, .int 0, .int 0, .int 0, .int 0])), (h6, .inl (y0, 3, .inl (fun _ => 0))), (h5, .inl (y1, 3, .inl (fun _ => 0))), (h3, .inr (5, [.int 304, .int 0, .int 0, .int 0, .int 0, .int 0]))]) [0, 4, 1, 2, 3] rfl
      have hD9 := hD.sub (ws' := [(h0, .inr (1, [.ref h1, .ref h2, .ref h3, .ref h4])), (h4, .inr (9, [.ref h5, .ref h6, .int 0, .int 0, .int 0, .int 0])), (h6, .inl (y0, 3, .inl (fun _ => 0))), (h5, .inl (y1, 3, .inl (fun _ => 0))), (h3, .inr (5, [.int 304, .int 0, .int 0, .int 0, .int 0, .int 0]))]) [0, 4, 1, 2, 3] (by decide) rfl
      have hK9 := hK.sub (tys' := [(y0, .int), (y1, .int)]) [0, 1] rfl
      exact W.vret hx hb hr (fun t ht hW => ⟨⟨(0, 0, (fun _ => 0), (fun _ => 0), 304, 0, 0, 0, 0), rfl, ⟨iv_w (by decide : iv 0 0 0) (by decide) (by decide), iv_w (by decide : iv 0 0 0) (by decide) (by decide), (fun _ => (by decide : iv 0 0 255)), (fun _ => (by decide : iv 0 0 17)), iv_w (by decide : iv 304 304 304) (by decide) (by decide), iv_w (by decide : iv 0 0 0) (by decide) (by decide), iv_w (by decide : iv 0 0 0) (by decide) (by decide), iv_w (by decide : iv 0 0 0) (by decide) (by decide), iv_w (by decide : iv 0 0 0) (by decide) (by decide), trivial⟩, by rw [ht]; exact hP9, va_K.moved hW.alike hK9, hD9⟩, hS.F ht⟩) hS.2.2 dX1_writeThing_53
    · skip
      have j6 : iv x0 304 511 := iv_nltL ix0 (by decide : iv 304 304 304) c2 (by decide)
      refine lv_iload_n hx hb dX1_writeThing_25 rfl (lv_at hl 1 rfl) ?_
      refine lv_sipush (v := 318) hx hb dX1_writeThing_26 (by decide) ?_
      refine lv_icmp_gt (tgt := 44) hx hb dX1_writeThing_29 (by decide) (fun c7 => ?_) (fun c7 => ?_)
      · skip
        have j8 : iv x0 319 511 := iv_ltR (by decide : iv 318 318 318) j6 c7 (by decide)
        refine lv_aload_n hx hb dX1_writeThing_44 rfl (lv_at hl 0 rfl) ?_
        refine va_get (D := (dC, dI)) (ci := 1) (v := .ref h4) (C := RX1) (T := TX1) (N := 4) hx hb hG inGX1 hown hK hP 0 rfl rfl 3 (by decide) (hG _ wd_117) (fun _ h9 => h9) rfl dX1_writeThing_45 ?_
        refine lv_iload_n hx hb dX1_writeThing_48 rfl (lv_at hl 1 rfl) ?_
        refine lv_iload_n hx hb dX1_writeThing_49 rfl (lv_at hl 2 rfl) ?_
        have hPc := hP.sub (ws' := [(h4, .inr (9, [.ref h5, .ref h6, .int 0, .int 0, .int 0, .int 0])), (h6, .inl (y0, 3, .inl (fun _ => 0))), (h5, .inl (y1, 3, .inl (fun _ => 0)))]) [1, 2, 3] rfl
        have hDc := hD.sub (ws' := [(h4, .inr (9, [.ref h5, .ref h6, .int 0, .int 0, .int 0, .int 0])), (h6, .inl (y0, 3, .inl (fun _ => 0))), (h5, .inl (y1, 3, .inl (fun _ => 0)))]) [1, 2, 3] (by decide) rfl
        have hKc := hK.sub (tys' := [(y0, .int), (y1, .int)]) [0, 1] rfl
        have hFc := va_free (wc := [(h4, .inr (9, [.ref h5, .ref h6, .int 0, .int 0, .int 0, .int 0])), (h6, .inl (y0, 3, .inl (fun _ => 0))), (h5, .inl (y1, 3, .inl (fun _ => 0)))]) hD hS hA [1, 2, 3] rfl
        refine va_callv (va_runV (As := [.int x0, .int x1]) (rest := []) ⟨hx, hb, hml, hown, hG⟩ (cX9_writeWord_4 l dC dI h4 h5 h6 y0 y1 s.heap.size x0 x1 j8 ix1) (cwV 2 hG (gV wd_759 wd_760 wd_761 wd_5 wd_762) rfl rfl rfl (by decide +kernel) ⟨Nat.le_of_ble_eq_true rfl, Nat.le_of_ble_eq_true rfl⟩) ⟨fun a U g mk q => by obtain ⟨q0, q1, qP, qK, qD⟩ := q; exact ⟨q0, q1, qP, va_K.moved (u := U) (U := U.calling g mk a) (Vm.Alike.refl U.vm) qK, qD⟩, va_recv hKc hPc (ci := 9) (q0 := 0) rfl rfl, fun U hU hW => ⟨rfl, by rw [hU], by rw [hU]; exact hPc, va_K.moved hW.alike hKc, hDc.weaken (fun _ _ _ _ => trivial)⟩⟩ rfl rfl hl.1 rfl (lv_room (Nat.le_of_ble_eq_true rfl)) dX1_writeThing_50 ⟨by decide, by decide⟩) hS (fun q _ h => hFc q h) hFc (fun u10 t H1 locs ht hvm hw hB hz1 hk1 hS => ?_)
        obtain ⟨u10_0, u10_1, u10_2, u10_3⟩ := u10
        have hw : iv u10_0 0 255 ∧ iv u10_1 0 255 ∧ (∀ j, iv (u10_2 j) 0 255) ∧ (∀ j, iv (u10_3 j) 0 17) ∧ True := hw
        obtain ⟨iu10_0, iu10_1, iu10_2, iu10_3, -⟩ := hw
        obtain ⟨hP1, hK1, hD1⟩ := hB
        rw [ht] at hP1
        have hK1 := va_K.moved hvm.symm hK1
        obtain ⟨hP, hD⟩ := va_join (wr := [(h0, .inr (1, [.ref h1, .ref h2, .ref h3, .ref h4])), (h3, .inr (5, [.int 304, .int 0, .int 0, .int 0, .int 0, .int 0]))]) (w1 := [(h4, .inr (9, [.ref h5, .ref h6, .int u10_0, .int u10_1, .int 0, .int 0])), (h6, .inl (y0, 3, .inl u10_2)), (h5, .inl (y1, 3, .inl u10_3))]) hP hD [1, 2, 3] [0, 4] rfl rfl (by decide) (by decide) hk1 hFc hP1 hD1
        have hK := (hK.sub (tys' := []) [] rfl).app hK1
        generalize H1 = H at hP hS ⊢
        have hP : va_P (dC, dI) vwCl [(h0, .inr (1, [.ref h1, .ref h2, .ref h3, .ref h4])), (h3, .inr (5, [.int 304, .int 0, .int 0, .int 0, .int 0, .int 0])), (h4, .inr (9, [.ref h5, .ref h6, .int u10_0, .int u10_1, .int 0, .int 0])), (h6, .inl (y0, 3, .inl u10_2)), (h5, .inl (y1, 3, .inl u10_3))] H := hP
        have hD : va_D A [(h0, .inr (1, [.ref h1, .ref h2, .ref h3, .ref h4])), (h3, .inr (5, [.int 304, .int 0, .int 0, .int 0, .int 0, .int 0])), (h4, .inr (9, [.ref h5, .ref h6, .int u10_0, .int u10_1, .int 0, .int 0])), (h6, .inl (y0, 3, .inl u10_2)), (h5, .inl (y1, 3, .inl u10_3))] := hD
        have hK : va_K (dC, dI) vwCl [(y0, .int), (y1, .int)] s := hK
        have hP9 := hP.sub (ws' := [(h0, .inr (1, [.ref h1, .ref h2, .ref h3, .ref h4])), (h4, .inr (9, [.ref h5, .ref h6, .int u10_0, .int u10_1, .int 0, .int 0])), (h6, .inl (y0, 3, .inl u10_2)), (h5, .inl (y1, 3, .inl u10_3)), (h3, .inr (5, [.int 304, .int 0, .int 0, .int 0, .int 0, .int 0]))]) [0, 2, 3, 4, 1] rfl
        have hD9 := hD.sub (ws' := [(h0, .inr (1, [.ref h1, .ref h2, .ref h3, .ref h4])), (h4, .inr (9, [.ref h5, .ref h6, .int u10_0, .int u10_1, .int 0, .int 0])), (h6, .inl (y0, 3, .inl u10_2)), (h5, .inl (y1, 3, .inl u10_3)), (h3, .inr (5, [.int 304, .int 0, .int 0, .int 0, .int 0, .int 0]))]) [0, 2, 3, 4, 1] (by decide) rfl
        have hK9 := hK.sub (tys' := [(y0, .int), (y1, .int)]) [0, 1] rfl
        exact W.vret hx hb hr (fun t ht hW => ⟨⟨(u10_0, u10_1, u10_2, u10_3, 304, 0, 0, 0, 0), rfl, ⟨iv_w iu10_0 (by decide) (by decide), iv_w iu10_1 (by decide) (by decide), (fun j => iv_w (iu10_2 j) (by decide) (by decide)), (fun j => iv_w (iu10_3 j) (by decide) (by decide)), iv_w (by decide : iv 304 304 304) (by decide) (by decide), iv_w (by decide : iv 0 0 0) (by decide) (by decide), iv_w (by decide : iv 0 0 0) (by decide) (by decide), iv_w (by decide : iv 0 0 0) (by decide) (by decide), iv_w (by decide : iv 0 0 0) (by decide) (by decide), trivial⟩, by rw [ht]; exact hP9, va_K.moved hW.alike hK9, hD9⟩, hS.F ht⟩) hS.2.2 dX1_writeThing_53
      · skip
        have j11 : iv x0 304 318 := iv_nltR (by decide : iv 318 318 318) j6 c7 (by decide)
        refine lv_aload_n hx hb dX1_writeThing_32 rfl (lv_at hl 0 rfl) ?_
        refine va_get (D := (dC, dI)) (ci := 1) (v := .ref h3) (C := RX1) (T := TX1) (N := 4) hx hb hG inGX1 hown hK hP 0 rfl rfl 2 (by decide) (hG _ wd_116) (fun _ h9 => h9) rfl dX1_writeThing_33 ?_
        refine lv_iload_n hx hb dX1_writeThing_36 rfl (lv_at hl 1 rfl) ?_
        refine lv_iload_n hx hb dX1_writeThing_37 rfl (lv_at hl 2 rfl) ?_
        have hPc := hP.sub (ws' := [(h3, .inr (5, [.int 304, .int 0, .int 0, .int 0, .int 0, .int 0]))]) [4] rfl
        have hDc := hD.sub (ws' := [(h3, .inr (5, [.int 304, .int 0, .int 0, .int 0, .int 0, .int 0]))]) [4] (by decide) rfl
        have hKc := hK.sub (tys' := []) [] rfl
        have hFc := va_free (wc := [(h3, .inr (5, [.int 304, .int 0, .int 0, .int 0, .int 0, .int 0]))]) hD hS hA [4] rfl
        refine va_callv (va_runV (As := [.int x0, .int x1]) (rest := []) ⟨hx, hb, hml, hown, hG⟩ (cX5_writeWord_2 l dC dI h3 s.heap.size x0 x1 j11 ix1) (cwV 2 hG (gV wd_750 wd_751 wd_752 wd_4 wd_753) rfl rfl rfl (by decide +kernel) ⟨Nat.le_of_ble_eq_true rfl, Nat.le_of_ble_eq_true rfl⟩) ⟨fun a U g mk q => by obtain ⟨q0, q1, qP, qK, qD⟩ := q; exact ⟨q0, q1, qP, va_K.moved (u := U) (U := U.calling g mk a) (Vm.Alike.refl U.vm) qK, qD⟩, va_recv hKc hPc (ci := 5) (q0 := 0) rfl rfl, fun U hU hW => ⟨rfl, by rw [hU], by rw [hU]; exact hPc, va_K.moved hW.alike hKc, hDc.weaken (fun _ _ _ _ => trivial)⟩⟩ rfl rfl hl.1 rfl (lv_room (Nat.le_of_ble_eq_true rfl)) dX1_writeThing_38 ⟨by decide, by decide⟩) hS (fun q _ h => hFc q h) hFc (fun u13 t H1 locs ht hvm hw hB hz1 hk1 hS => ?_)
        obtain ⟨u13_0, u13_1, u13_2, u13_3, u13_4⟩ := u13
        have hw : iv u13_0 304 308 ∧ iv u13_1 0 255 ∧ iv u13_2 0 255 ∧ iv u13_3 0 65535 ∧ iv u13_4 0 65535 ∧ True := hw
        obtain ⟨iu13_0, iu13_1, iu13_2, iu13_3, iu13_4, -⟩ := hw
        obtain ⟨hP1, hK1, hD1⟩ := hB
        rw [ht] at hP1
        have hK1 := va_K.moved hvm.symm hK1
        obtain ⟨hP, hD⟩ := va_join (wr := [(h0, .inr (1, [.ref h1, .ref h2, .ref h3, .ref h4])), (h4, .inr (9, [.ref h5, .ref h6, .int 0, .int 0, .int 0, .int 0])), (h6, .inl (y0, 3, .inl (fun _ => 0))), (h5, .inl (y1, 3, .inl (fun _ => 0)))]) (w1 := [(h3, .inr (5, [.int u13_0, .int u13_1, .int u13_2, .int u13_3, .int u13_4, .int 0]))]) hP hD [4] [0, 1, 2, 3] rfl rfl (by decide) (by decide) hk1 hFc hP1 hD1
        have hK := (hK.sub (tys' := [(y0, .int), (y1, .int)]) [0, 1] rfl).app hK1
        generalize H1 = H at hP hS ⊢
        have hP : va_P (dC, dI) vwCl [(h0, .inr (1, [.ref h1, .ref h2, .ref h3, .ref h4])), (h4, .inr (9, [.ref h5, .ref h6, .int 0, .int 0, .int 0, .int 0])), (h6, .inl (y0, 3, .inl (fun _ => 0))), (h5, .inl (y1, 3, .inl (fun _ => 0))), (h3, .inr (5, [.int u13_0, .int u13_1, .int u13_2, .int u13_3, .int u13_4, .int 0]))] H := hP
        have hD : va_D A [(h0, .inr (1, [.ref h1, .ref h2, .ref h3, .ref h4])), (h4, .inr (9, [.ref h5, .ref h6, .int 0, .int 0, .int 0, .int 0])), (h6, .inl (y0, 3, .inl (fun _ => 0))), (h5, .inl (y1, 3, .inl (fun _ => 0))), (h3, .inr (5, [.int u13_0, .int u13_1, .int u13_2, .int u13_3, .int u13_4, .int 0]))] := hD
        have hK : va_K (dC, dI) vwCl [(y0, .int), (y1, .int)] s := hK
        refine lv_goto (tgt := 53) hx hb dX1_writeThing_41 (by decide) ?_
        have hP9 := hP.sub (ws' := [(h0, .inr (1, [.ref h1, .ref h2, .ref h3, .ref h4])), (h4, .inr (9, [.ref h5, .ref h6, .int 0, .int 0, .int 0, .int 0])), (h6, .inl (y0, 3, .inl (fun _ => 0))), (h5, .inl (y1, 3, .inl (fun _ => 0))), (h3, .inr (5, [.int u13_0, .int u13_1, .int u13_2, .int u13_3, .int u13_4, .int 0]))]) [0, 1, 2, 3, 4] rfl
        have hD9 := hD.sub (ws' := [(h0, .inr (1, [.ref h1, .ref h2, .ref h3, .ref h4])), (h4, .inr (9, [.ref h5, .ref h6, .int 0, .int 0, .int 0, .int 0])), (h6, .inl (y0, 3, .inl (fun _ => 0))), (h5, .inl (y1, 3, .inl (fun _ => 0))), (h3, .inr (5, [.int u13_0, .int u13_1, .int u13_2, .int u13_3, .int u13_4, .int 0]))]) [0, 1, 2, 3, 4] (by decide) rfl
        have hK9 := hK.sub (tys' := [(y0, .int), (y1, .int)]) [0, 1] rfl
        exact W.vret hx hb hr (fun t ht hW => ⟨⟨(0, 0, (fun _ => 0), (fun _ => 0), u13_0, u13_1, u13_2, u13_3, u13_4), rfl, ⟨iv_w (by decide : iv 0 0 0) (by decide) (by decide), iv_w (by decide : iv 0 0 0) (by decide) (by decide), (fun _ => (by decide : iv 0 0 255)), (fun _ => (by decide : iv 0 0 17)), iv_w iu13_0 (by decide) (by decide), iv_w iu13_1 (by decide) (by decide), iv_w iu13_2 (by decide) (by decide), iv_w iu13_3 (by decide) (by decide), iv_w iu13_4 (by decide) (by decide), trivial⟩, by rw [ht]; exact hP9, va_K.moved hW.alike hK9, hD9⟩, hS.F ht⟩) hS.2.2 dX1_writeThing_53
  · skip
    subst c1
    refine lv_aload_n hx hb dX1_writeThing_7 rfl (lv_at hl 0 rfl) ?_
    refine va_get (D := (dC, dI)) (ci := 1) (v := .ref h4) (C := RX1) (T := TX1) (N := 4) hx hb hG inGX1 hown hK hP 0 rfl rfl 3 (by decide) (hG _ wd_117) (fun _ h9 => h9) rfl dX1_writeThing_8 ?_
    have hPc := hP.sub (ws' := [(h4, .inr (9, [.ref h5, .ref h6, .int 0, .int 0, .int 0, .int 0])), (h5, .inl (y1, 3, .inl (fun _ => 0)))]) [1, 3] rfl
    have hDc := hD.sub (ws' := [(h4, .inr (9, [.ref h5, .ref h6, .int 0, .int 0, .int 0, .int 0])), (h5, .inl (y1, 3, .inl (fun _ => 0)))]) [1, 3] (by decide) rfl
    have hKc := hK.sub (tys' := [(y1, .int)]) [1] rfl
    have hFc := va_free (wc := [(h4, .inr (9, [.ref h5, .ref h6, .int 0, .int 0, .int 0, .int 0])), (h5, .inl (y1, 3, .inl (fun _ => 0)))]) hD hS hA [1, 3] rfl
    refine va_calli (va_runV (As := []) (rest := []) ⟨hx, hb, hml, hown, hG⟩ (cX9_takeVector_1 l dC dI h4 h5 h6 y1 s.heap.size) (cwV 0 hG (gV wd_745 wd_746 wd_747 wd_5 wd_748) rfl rfl rfl (by decide +kernel) ⟨Nat.le_of_ble_eq_true rfl, Nat.le_of_ble_eq_true rfl⟩) ⟨fun a U g mk q => by obtain ⟨q0, q1, qP, qK, qD⟩ := q; exact ⟨q0, q1, qP, va_K.moved (u := U) (U := U.calling g mk a) (Vm.Alike.refl U.vm) qK, qD⟩, va_recv hKc hPc (ci := 9) (q0 := 0) rfl rfl, fun U hU hW => ⟨rfl, by rw [hU], by rw [hU]; exact hPc, va_K.moved hW.alike hKc, hDc.weaken (fun _ _ _ _ => trivial)⟩⟩ rfl rfl hl.1 rfl (lv_room (Nat.le_of_ble_eq_true rfl)) dX1_writeThing_11 ⟨by decide, by decide⟩) hS (fun q _ h => hFc q h) hFc (fun r14 u15 t H1 locs ht hvm hw hB hz1 hk1 hS => ?_)
    have hw : r14 = 0 ∧ True := hw
    obtain ⟨er14, -⟩ := hw
    obtain ⟨hP1, hK1, hD1⟩ := hB
    rw [ht] at hP1
    have hK1 := va_K.moved hvm.symm hK1
    obtain ⟨hP, hD⟩ := va_join (wr := [(h0, .inr (1, [.ref h1, .ref h2, .ref h3, .ref h4])), (h6, .inl (y0, 3, .inl (fun _ => 0))), (h3, .inr (5, [.int 304, .int 0, .int 0, .int 0, .int 0, .int 0]))]) (w1 := [(h4, .inr (9, [.ref h5, .ref h6, .int 0, .int 0, .int 0, .int 0])), (h5, .inl (y1, 3, .inl (fun _ => 0)))]) hP hD [1, 3] [0, 2, 4] rfl rfl (by decide) (by decide) hk1 hFc hP1 hD1
    have hK := (hK.sub (tys' := [(y0, .int)]) [0] rfl).app hK1
    generalize H1 = H at hP hS ⊢
    have hP : va_P (dC, dI) vwCl [(h0, .inr (1, [.ref h1, .ref h2, .ref h3, .ref h4])), (h6, .inl (y0, 3, .inl (fun _ => 0))), (h3, .inr (5, [.int 304, .int 0, .int 0, .int 0, .int 0, .int 0])), (h4, .inr (9, [.ref h5, .ref h6, .int 0, .int 0, .int 0, .int 0])), (h5, .inl (y1, 3, .inl (fun _ => 0)))] H := hP
    have hD : va_D A [(h0, .inr (1, [.ref h1, .ref h2, .ref h3, .ref h4])), (h6, .inl (y0, 3, .inl (fun _ => 0))), (h3, .inr (5, [.int 304, .int 0, .int 0, .int 0, .int 0, .int 0])), (h4, .inr (9, [.ref h5, .ref h6, .int 0, .int 0, .int 0, .int 0])), (h5, .inl (y1, 3, .inl (fun _ => 0)))] := hD
    have hK : va_K (dC, dI) vwCl [(y0, .int), (y1, .int)] s := hK
    subst er14
    refine lv_pop hx hb dX1_writeThing_14 rfl ?_
    refine lv_goto (tgt := 53) hx hb dX1_writeThing_15 (by decide) ?_
    have hP9 := hP.sub (ws' := [(h0, .inr (1, [.ref h1, .ref h2, .ref h3, .ref h4])), (h4, .inr (9, [.ref h5, .ref h6, .int 0, .int 0, .int 0, .int 0])), (h6, .inl (y0, 3, .inl (fun _ => 0))), (h5, .inl (y1, 3, .inl (fun _ => 0))), (h3, .inr (5, [.int 304, .int 0, .int 0, .int 0, .int 0, .int 0]))]) [0, 3, 1, 4, 2] rfl
    have hD9 := hD.sub (ws' := [(h0, .inr (1, [.ref h1, .ref h2, .ref h3, .ref h4])), (h4, .inr (9, [.ref h5, .ref h6, .int 0, .int 0, .int 0, .int 0])), (h6, .inl (y0, 3, .inl (fun _ => 0))), (h5, .inl (y1, 3, .inl (fun _ => 0))), (h3, .inr (5, [.int 304, .int 0, .int 0, .int 0, .int 0, .int 0]))]) [0, 3, 1, 4, 2] (by decide) rfl
    have hK9 := hK.sub (tys' := [(y0, .int), (y1, .int)]) [0, 1] rfl
    exact W.vret hx hb hr (fun t ht hW => ⟨⟨(0, 0, (fun _ => 0), (fun _ => 0), 304, 0, 0, 0, 0), rfl, ⟨iv_w (by decide : iv 0 0 0) (by decide) (by decide), iv_w (by decide : iv 0 0 0) (by decide) (by decide), (fun _ => (by decide : iv 0 0 255)), (fun _ => (by decide : iv 0 0 17)), iv_w (by decide : iv 304 304 304) (by decide) (by decide), iv_w (by decide : iv 0 0 0) (by decide) (by decide), iv_w (by decide : iv 0 0 0) (by decide) (by decide), iv_w (by decide : iv 0 0 0) (by decide) (by decide), iv_w (by decide : iv 0 0 0) (by decide) (by decide), trivial⟩, by rw [ht]; exact hP9, va_K.moved hW.alike hK9, hD9⟩, hS.F ht⟩) hS.2.2 dX1_writeThing_53
set_option maxHeartbeats 4000000 in
set_option maxRecDepth 100000 in
theorem cX7_write_1 (l : Launch) (dC : Nat → ClassId) (dI : Nat → Nat → Nat) (h0 : Nat) (sz : Nat) (x0 x1 : Int32) (ix0 : iv x0 0 287) (ix1 : iv x1 0 255) : Met l yX7_write (Cond.code yX7_write cX7_write 3 none :: lw_G) ({ frames := 0, cells := 0, slots := 0, locals := 0 }) (va_Pc [.ref h0, .int x0, .int x1] (fun U => U.heap.size = sz ∧ va_P (dC, dI) vwCl [(h0, .inr (7, [.int 0, .int 0, .int 0, .int 0, .int 0]))] U.heap ∧ va_K (dC, dI) vwCl [] U ∧ va_D (fun _ => True) [(h0, .inr (7, [.int 0, .int 0, .int 0, .int 0, .int 0]))])) (va_Qv (fun (u : Int32 × Int32 × Int32 × Int32) => iv u.1 0 255 ∧ iv u.2.1 0 255 ∧ iv u.2.2.1 0 255 ∧ iv u.2.2.2 0 255 ∧ True) (fun (u : Int32 × Int32 × Int32 × Int32) (t : State) => va_P (dC, dI) vwCl [(h0, .inr (7, [.int 0, .int u.1, .int u.2.1, .int u.2.2.1, .int u.2.2.2]))] t.heap ∧ va_K (dC, dI) vwCl [] t ∧ va_D (va_A [(h0, .inr (7, [.int 0, .int 0, .int 0, .int 0, .int 0]))] sz) [(h0, .inr (7, [.int 0, .int u.1, .int u.2.1, .int u.2.2.1, .int u.2.2.2]))]) (va_A [(h0, .inr (7, [.int 0, .int 0, .int 0, .int 0, .int 0]))] sz)) 0 0 (va_A [(h0, .inr (7, [.int 0, .int 0, .int 0, .int 0, .int 0]))] sz) := by
  refine Met.ofW (cc := cX7_write) (maxL := 3) (ret := none) (by decide) rfl ?_
  intro p e s m args below meth c s₁ B hml hv
  obtain ⟨rfl, hsz, hP, hK, hD0⟩ := hv
  have hx := B.exec
  have hb := B.bytes
  have hr := B.returns
  have hts0 := atoms_spec (ws := Cond.code yX7_write cX7_write 3 none :: lw_G) B.pre
  have hG : ∀ w ∈ lw_G, w.before _ s = true := fun w h => hts0 w (List.mem_cons_of_mem _ h)
  have hown : s.vm.findClass RX7 = some m.cls := findClass_of_methodNamed B.named
  have hlocks := B.notSynchronized
  subst hsz
  have hD := hD0.self (sz := s.heap.size)
  generalize hAe : va_A [(h0, .inr (7, [.int 0, .int 0, .int 0, .int 0, .int 0]))] s.heap.size = A at hD ⊢
  have hA : ∀ q : Nat, s.heap.size ≤ q → A q := fun q h => by rw [← hAe]; exact Or.inr h
  have hS : va_S A s.heap s.heap [] := va_S.rf
  have hP : va_P (dC, dI) vwCl [(h0, .inr (7, [.int 0, .int 0, .int 0, .int 0, .int 0]))] s.heap := hP
  have hl := lv_entry ([.ref h0, .int x0, .int x1]) (n := 3) (Nat.le_of_ble_eq_true rfl)
  rw [lg_entry_eq]
  generalize (lg_sl ([.ref h0, .int x0, .int x1]) ++ List.replicate (3 - (lg_sl ([.ref h0, .int x0, .int x1])).length) Slot.unset).toArray = ls at hl ⊢
  have hl : lv_has ls 3 [(0, .ref h0), (1, .int x0), (2, .int x1)] := hl
  refine lv_iload_n hx hb dX7_write_0 rfl (lv_at hl 1 rfl) ?_
  by_cases s1 : x0.toInt < 33 ∨ 37 < x0.toInt
  · skip
    refine lv_tableOut (tgt := 84) hx hb dX7_write_1 s1 (by decide) ?_
    have hP9 := hP.sub (ws' := [(h0, .inr (7, [.int 0, .int 0, .int 0, .int 0, .int 0]))]) [0] rfl
    have hD9 := hD.sub (ws' := [(h0, .inr (7, [.int 0, .int 0, .int 0, .int 0, .int 0]))]) [0] (by decide) rfl
    have hK9 := hK.sub (tys' := []) [] rfl
    exact W.vret hx hb hr (fun t ht hW => ⟨⟨(0, 0, 0, 0), rfl, ⟨iv_w (by decide : iv 0 0 0) (by decide) (by decide), iv_w (by decide : iv 0 0 0) (by decide) (by decide), iv_w (by decide : iv 0 0 0) (by decide) (by decide), iv_w (by decide : iv 0 0 0) (by decide) (by decide), trivial⟩, by rw [ht]; exact hP9, va_K.moved hW.alike hK9, hD9⟩, hS.F ht⟩) hS.2.2 dX7_write_84
  · skip
    have s1x : x0 = 33 ∨ x0 = 34 ∨ x0 = 35 ∨ x0 = 36 ∨ x0 = 37 := by
      have := ix0
      have : x0.toInt = 33 ∨ x0.toInt = 34 ∨ x0.toInt = 35 ∨ x0.toInt = 36 ∨ x0.toInt = 37 := by omega
      rcases this with q | q | q | q | q
      · exact Or.inl (Int32.toInt_inj.mp q)
      · exact Or.inr (Or.inl (Int32.toInt_inj.mp q))
      · exact Or.inr (Or.inr (Or.inl (Int32.toInt_inj.mp q)))
      · exact Or.inr (Or.inr (Or.inr (Or.inl (Int32.toInt_inj.mp q))))
      · exact Or.inr (Or.inr (Or.inr (Or.inr ((Int32.toInt_inj.mp q)))))
    rcases s1x with rfl | rfl | rfl | rfl | rfl
    · skip
      refine lv_tableIn (off := 35) (tgt := 36) hx hb dX7_write_1 (by decide) (by decide) (by decide) (by decide) ?_
      refine lv_aload_n hx hb dX7_write_36 rfl (lv_at hl 0 rfl) ?_
      refine lv_iload_n hx hb dX7_write_37 rfl (lv_at hl 2 rfl) ?_
      refine lv_sipush (v := 255) hx hb dX7_write_38 (by decide) ?_
      refine lv_iand hx hb dX7_write_41 ?_
      refine lv_topi (fun v2 ev2 => ?_)
      have iv2 : iv v2 0 255 := iv_eq ev2 (iv_and (x := x1) (iv_w (by decide : iv 255 255 255) (by decide) (by decide) : iv 255 0 255))
      refine va_put (D := (dC, dI)) (ci := 7) (v := .int v2) (ty := .int) (C := RX7) (T := TX7) (N := 5) hx hb hG inGX7 tyX7 tyX7_ok nmX7 hown hK hP hD hS 0 rfl rfl 1 (by decide) (hG _ wd_48) (fun _ h9 => h9) rfl (by decide +kernel) rfl rfl (Nat.le_of_ble_eq_true rfl) dX7_write_42 (fun H locs hP hD hS => ?_)
      have hP : va_P (dC, dI) vwCl [(h0, .inr (7, [.int 0, .int v2, .int 0, .int 0, .int 0]))] H := hP
      have hD : va_D A [(h0, .inr (7, [.int 0, .int v2, .int 0, .int 0, .int 0]))] := hD
      refine lv_goto (tgt := 84) hx hb dX7_write_45 (by decide) ?_
      have hP9 := hP.sub (ws' := [(h0, .inr (7, [.int 0, .int v2, .int 0, .int 0, .int 0]))]) [0] rfl
      have hD9 := hD.sub (ws' := [(h0, .inr (7, [.int 0, .int v2, .int 0, .int 0, .int 0]))]) [0] (by decide) rfl
      have hK9 := hK.sub (tys' := []) [] rfl
      exact W.vret hx hb hr (fun t ht hW => ⟨⟨(v2, 0, 0, 0), rfl, ⟨iv_w iv2 (by decide) (by decide), iv_w (by decide : iv 0 0 0) (by decide) (by decide), iv_w (by decide : iv 0 0 0) (by decide) (by decide), iv_w (by decide : iv 0 0 0) (by decide) (by decide), trivial⟩, by rw [ht]; exact hP9, va_K.moved hW.alike hK9, hD9⟩, hS.F ht⟩) hS.2.2 dX7_write_84
    · skip
      refine lv_tableIn (off := 83) (tgt := 84) hx hb dX7_write_1 (by decide) (by decide) (by decide) (by decide) ?_
      have hP9 := hP.sub (ws' := [(h0, .inr (7, [.int 0, .int 0, .int 0, .int 0, .int 0]))]) [0] rfl
      have hD9 := hD.sub (ws' := [(h0, .inr (7, [.int 0, .int 0, .int 0, .int 0, .int 0]))]) [0] (by decide) rfl
      have hK9 := hK.sub (tys' := []) [] rfl
      exact W.vret hx hb hr (fun t ht hW => ⟨⟨(0, 0, 0, 0), rfl, ⟨iv_w (by decide : iv 0 0 0) (by decide) (by decide), iv_w (by decide : iv 0 0 0) (by decide) (by decide), iv_w (by decide : iv 0 0 0) (by decide) (by decide), iv_w (by decide : iv 0 0 0) (by decide) (by decide), trivial⟩, by rw [ht]; exact hP9, va_K.moved hW.alike hK9, hD9⟩, hS.F ht⟩) hS.2.2 dX7_write_84
    · skip
      refine lv_tableIn (off := 47) (tgt := 48) hx hb dX7_write_1 (by decide) (by decide) (by decide) (by decide) ?_
      refine lv_aload_n hx hb dX7_write_48 rfl (lv_at hl 0 rfl) ?_
      refine lv_iload_n hx hb dX7_write_49 rfl (lv_at hl 2 rfl) ?_
      refine lv_sipush (v := 255) hx hb dX7_write_50 (by decide) ?_
      refine lv_iand hx hb dX7_write_53 ?_
      refine lv_topi (fun v3 ev3 => ?_)
      have iv3 : iv v3 0 255 := iv_eq ev3 (iv_and (x := x1) (iv_w (by decide : iv 255 255 255) (by decide) (by decide) : iv 255 0 255))
      refine va_put (D := (dC, dI)) (ci := 7) (v := .int v3) (ty := .int) (C := RX7) (T := TX7) (N := 5) hx hb hG inGX7 tyX7 tyX7_ok nmX7 hown hK hP hD hS 0 rfl rfl 2 (by decide) (hG _ wd_49) (fun _ h9 => h9) rfl (by decide +kernel) rfl rfl (Nat.le_of_ble_eq_true rfl) dX7_write_54 (fun H locs hP hD hS => ?_)
      have hP : va_P (dC, dI) vwCl [(h0, .inr (7, [.int 0, .int 0, .int v3, .int 0, .int 0]))] H := hP
      have hD : va_D A [(h0, .inr (7, [.int 0, .int 0, .int v3, .int 0, .int 0]))] := hD
      refine lv_goto (tgt := 84) hx hb dX7_write_57 (by decide) ?_
      have hP9 := hP.sub (ws' := [(h0, .inr (7, [.int 0, .int 0, .int v3, .int 0, .int 0]))]) [0] rfl
      have hD9 := hD.sub (ws' := [(h0, .inr (7, [.int 0, .int 0, .int v3, .int 0, .int 0]))]) [0] (by decide) rfl
      have hK9 := hK.sub (tys' := []) [] rfl
      exact W.vret hx hb hr (fun t ht hW => ⟨⟨(0, v3, 0, 0), rfl, ⟨iv_w (by decide : iv 0 0 0) (by decide) (by decide), iv_w iv3 (by decide) (by decide), iv_w (by decide : iv 0 0 0) (by decide) (by decide), iv_w (by decide : iv 0 0 0) (by decide) (by decide), trivial⟩, by rw [ht]; exact hP9, va_K.moved hW.alike hK9, hD9⟩, hS.F ht⟩) hS.2.2 dX7_write_84
    · skip
      refine lv_tableIn (off := 59) (tgt := 60) hx hb dX7_write_1 (by decide) (by decide) (by decide) (by decide) ?_
      refine lv_aload_n hx hb dX7_write_60 rfl (lv_at hl 0 rfl) ?_
      refine lv_iload_n hx hb dX7_write_61 rfl (lv_at hl 2 rfl) ?_
      refine lv_sipush (v := 255) hx hb dX7_write_62 (by decide) ?_
      refine lv_iand hx hb dX7_write_65 ?_
      refine lv_topi (fun v4 ev4 => ?_)
      have iv4 : iv v4 0 255 := iv_eq ev4 (iv_and (x := x1) (iv_w (by decide : iv 255 255 255) (by decide) (by decide) : iv 255 0 255))
      refine va_put (D := (dC, dI)) (ci := 7) (v := .int v4) (ty := .int) (C := RX7) (T := TX7) (N := 5) hx hb hG inGX7 tyX7 tyX7_ok nmX7 hown hK hP hD hS 0 rfl rfl 3 (by decide) (hG _ wd_50) (fun _ h9 => h9) rfl (by decide +kernel) rfl rfl (Nat.le_of_ble_eq_true rfl) dX7_write_66 (fun H locs hP hD hS => ?_)
      have hP : va_P (dC, dI) vwCl [(h0, .inr (7, [.int 0, .int 0, .int 0, .int v4, .int 0]))] H := hP
      have hD : va_D A [(h0, .inr (7, [.int 0, .int 0, .int 0, .int v4, .int 0]))] := hD
      refine lv_goto (tgt := 84) hx hb dX7_write_69 (by decide) ?_
      have hP9 := hP.sub (ws' := [(h0, .inr (7, [.int 0, .int 0, .int 0, .int v4, .int 0]))]) [0] rfl
      have hD9 := hD.sub (ws' := [(h0, .inr (7, [.int 0, .int 0, .int 0, .int v4, .int 0]))]) [0] (by decide) rfl
      have hK9 := hK.sub (tys' := []) [] rfl
      exact W.vret hx hb hr (fun t ht hW => ⟨⟨(0, 0, v4, 0), rfl, ⟨iv_w (by decide : iv 0 0 0) (by decide) (by decide), iv_w (by decide : iv 0 0 0) (by decide) (by decide), iv_w iv4 (by decide) (by decide), iv_w (by decide : iv 0 0 0) (by decide) (by decide), trivial⟩, by rw [ht]; exact hP9, va_K.moved hW.alike hK9, hD9⟩, hS.F ht⟩) hS.2.2 dX7_write_84
    · skip
      refine lv_tableIn (off := 71) (tgt := 72) hx hb dX7_write_1 (by decide) (by decide) (by decide) (by decide) ?_
      refine lv_aload_n hx hb dX7_write_72 rfl (lv_at hl 0 rfl) ?_
      refine lv_iload_n hx hb dX7_write_73 rfl (lv_at hl 2 rfl) ?_
      refine lv_sipush (v := 255) hx hb dX7_write_74 (by decide) ?_
      refine lv_iand hx hb dX7_write_77 ?_
      refine lv_topi (fun v5 ev5 => ?_)
      have iv5 : iv v5 0 255 := iv_eq ev5 (iv_and (x := x1) (iv_w (by decide : iv 255 255 255) (by decide) (by decide) : iv 255 0 255))
      refine va_put (D := (dC, dI)) (ci := 7) (v := .int v5) (ty := .int) (C := RX7) (T := TX7) (N := 5) hx hb hG inGX7 tyX7 tyX7_ok nmX7 hown hK hP hD hS 0 rfl rfl 4 (by decide) (hG _ wd_51) (fun _ h9 => h9) rfl (by decide +kernel) rfl rfl (Nat.le_of_ble_eq_true rfl) dX7_write_78 (fun H locs hP hD hS => ?_)
      have hP : va_P (dC, dI) vwCl [(h0, .inr (7, [.int 0, .int 0, .int 0, .int 0, .int v5]))] H := hP
      have hD : va_D A [(h0, .inr (7, [.int 0, .int 0, .int 0, .int 0, .int v5]))] := hD
      refine lv_goto (tgt := 84) hx hb dX7_write_81 (by decide) ?_
      have hP9 := hP.sub (ws' := [(h0, .inr (7, [.int 0, .int 0, .int 0, .int 0, .int v5]))]) [0] rfl
      have hD9 := hD.sub (ws' := [(h0, .inr (7, [.int 0, .int 0, .int 0, .int 0, .int v5]))]) [0] (by decide) rfl
      have hK9 := hK.sub (tys' := []) [] rfl
      exact W.vret hx hb hr (fun t ht hW => ⟨⟨(0, 0, 0, v5), rfl, ⟨iv_w (by decide : iv 0 0 0) (by decide) (by decide), iv_w (by decide : iv 0 0 0) (by decide) (by decide), iv_w (by decide : iv 0 0 0) (by decide) (by decide), iv_w iv5 (by decide) (by decide), trivial⟩, by rw [ht]; exact hP9, va_K.moved hW.alike hK9, hD9⟩, hS.F ht⟩) hS.2.2 dX7_write_84
set_option maxHeartbeats 4000000 in
set_option maxRecDepth 100000 in
theorem cX1_writeByte_1 (l : Launch) (dC : Nat → ClassId) (dI : Nat → Nat → Nat) (h0 h1 h2 h3 h4 h5 h6 : Nat) (y0 y1 y2 : ClassId) (sz : Nat) (x0 x1 : Int32) (ix0 : iv x0 0 65535) (ix1 : iv x1 0 255) : Met l yX1_writeByte (Cond.code yX1_writeByte cX1_writeByte 7 none :: lw_G) ({ frames := 3, cells := 0, slots := 0, locals := 66 }) (va_Pc [.ref h0, .int x0, .int x1] (fun U => U.heap.size = sz ∧ va_P (dC, dI) vwCl [(h0, .inr (1, [.ref h1, .ref h2, .ref h3, .ref h4])), (h1, .inl (y0, 32768, .inl (fun _ => 0))), (h4, .inr (9, [.ref h5, .ref h6, .int 0, .int 0, .int 0, .int 0])), (h6, .inl (y1, 3, .inl (fun _ => 0))), (h5, .inl (y2, 3, .inl (fun _ => 0))), (h3, .inr (5, [.int 304, .int 0, .int 0, .int 0, .int 0, .int 0])), (h2, .inr (7, [.int 0, .int 0, .int 0, .int 0, .int 0]))] U.heap ∧ va_K (dC, dI) vwCl [(y0, .int), (y1, .int), (y2, .int)] U ∧ va_D (fun _ => True) [(h0, .inr (1, [.ref h1, .ref h2, .ref h3, .ref h4])), (h1, .inl (y0, 32768, .inl (fun _ => 0))), (h4, .inr (9, [.ref h5, .ref h6, .int 0, .int 0, .int 0, .int 0])), (h6, .inl (y1, 3, .inl (fun _ => 0))), (h5, .inl (y2, 3, .inl (fun _ => 0))), (h3, .inr (5, [.int 304, .int 0, .int 0, .int 0, .int 0, .int 0])), (h2, .inr (7, [.int 0, .int 0, .int 0, .int 0, .int 0]))])) (va_Qv (fun (u : (Nat → Int32) × Int32 × Int32 × (Nat → Int32) × (Nat → Int32) × Int32 × Int32 × Int32 × Int32 × Int32 × Int32 × Int32 × Int32 × Int32) => iv u.2.1 0 65531 ∧ (∀ j, iv (u.2.2.2.2.1 j) 0 17) ∧ iv u.2.2.2.2.2.1 304 308 ∧ iv u.2.2.2.2.2.2.2.2.2.2.1 0 255 ∧ iv u.2.2.2.2.2.2.2.2.2.2.2.1 0 255 ∧ iv u.2.2.2.2.2.2.2.2.2.2.2.2.1 0 255 ∧ iv u.2.2.2.2.2.2.2.2.2.2.2.2.2 0 255 ∧ True) (fun (u : (Nat → Int32) × Int32 × Int32 × (Nat → Int32) × (Nat → Int32) × Int32 × Int32 × Int32 × Int32 × Int32 × Int32 × Int32 × Int32 × Int32) (t : State) => va_P (dC, dI) vwCl [(h0, .inr (1, [.ref h1, .ref h2, .ref h3, .ref h4])), (h1, .inl (y0, 32768, .inl u.1)), (h4, .inr (9, [.ref h5, .ref h6, .int u.2.1, .int u.2.2.1, .int 0, .int 0])), (h6, .inl (y1, 3, .inl u.2.2.2.1)), (h5, .inl (y2, 3, .inl u.2.2.2.2.1)), (h3, .inr (5, [.int u.2.2.2.2.2.1, .int u.2.2.2.2.2.2.1, .int u.2.2.2.2.2.2.2.1, .int u.2.2.2.2.2.2.2.2.1, .int u.2.2.2.2.2.2.2.2.2.1, .int 0])), (h2, .inr (7, [.int 0, .int u.2.2.2.2.2.2.2.2.2.2.1, .int u.2.2.2.2.2.2.2.2.2.2.2.1, .int u.2.2.2.2.2.2.2.2.2.2.2.2.1, .int u.2.2.2.2.2.2.2.2.2.2.2.2.2]))] t.heap ∧ va_K (dC, dI) vwCl [(y0, .int), (y1, .int), (y2, .int)] t ∧ va_D (va_A [(h0, .inr (1, [.ref h1, .ref h2, .ref h3, .ref h4])), (h1, .inl (y0, 32768, .inl (fun _ => 0))), (h4, .inr (9, [.ref h5, .ref h6, .int 0, .int 0, .int 0, .int 0])), (h6, .inl (y1, 3, .inl (fun _ => 0))), (h5, .inl (y2, 3, .inl (fun _ => 0))), (h3, .inr (5, [.int 304, .int 0, .int 0, .int 0, .int 0, .int 0])), (h2, .inr (7, [.int 0, .int 0, .int 0, .int 0, .int 0]))] sz) [(h0, .inr (1, [.ref h1, .ref h2, .ref h3, .ref h4])), (h1, .inl (y0, 32768, .inl u.1)), (h4, .inr (9, [.ref h5, .ref h6, .int u.2.1, .int u.2.2.1, .int 0, .int 0])), (h6, .inl (y1, 3, .inl u.2.2.2.1)), (h5, .inl (y2, 3, .inl u.2.2.2.2.1)), (h3, .inr (5, [.int u.2.2.2.2.2.1, .int u.2.2.2.2.2.2.1, .int u.2.2.2.2.2.2.2.1, .int u.2.2.2.2.2.2.2.2.1, .int u.2.2.2.2.2.2.2.2.2.1, .int 0])), (h2, .inr (7, [.int 0, .int u.2.2.2.2.2.2.2.2.2.2.1, .int u.2.2.2.2.2.2.2.2.2.2.2.1, .int u.2.2.2.2.2.2.2.2.2.2.2.2.1, .int u.2.2.2.2.2.2.2.2.2.2.2.2.2]))]) (va_A [(h0, .inr (1, [.ref h1, .ref h2, .ref h3, .ref h4])), (h1, .inl (y0, 32768, .inl (fun _ => 0))), (h4, .inr (9, [.ref h5, .ref h6, .int 0, .int 0, .int 0, .int 0])), (h6, .inl (y1, 3, .inl (fun _ => 0))), (h5, .inl (y2, 3, .inl (fun _ => 0))), (h3, .inr (5, [.int 304, .int 0, .int 0, .int 0, .int 0, .int 0])), (h2, .inr (7, [.int 0, .int 0, .int 0, .int 0, .int 0]))] sz)) 0 0 (va_A [(h0, .inr (1, [.ref h1, .ref h2, .ref h3, .ref h4])), (h1, .inl (y0, 32768, .inl (fun _ => 0))), (h4, .inr (9, [.ref h5, .ref h6, .int 0, .int 0, .int 0, .int 0])), (h6, .inl (y1, 3, .inl (fun _ => 0))), (h5, .inl (y2, 3, .inl (fun _ => 0))), (h3, .inr (5, [.int 304, .int 0, .int 0, .int 0, .int 0, .int 0])), (h2, .inr (7, [.int 0, .int 0, .int 0, .int 0, .int 0]))] sz) := by
  refine Met.ofW (cc := cX1_writeByte) (maxL := 7) (ret := none) (by decide) rfl ?_
  intro p e s m args below meth c s₁ B hml hv
  obtain ⟨rfl, hsz, hP, hK, hD0⟩ := hv
  have hx := B.exec
  have hb := B.bytes
  have hr := B.returns
  have hts0 := atoms_spec (ws := Cond.code yX1_writeByte cX1_writeByte 7 none :: lw_G) B.pre
  have hG : ∀ w ∈ lw_G, w.before _ s = true := fun w h => hts0 w (List.mem_cons_of_mem _ h)
  have hown : s.vm.findClass RX1 = some m.cls := findClass_of_methodNamed B.named
  have hlocks := B.notSynchronized
  subst hsz
  have hD := hD0.self (sz := s.heap.size)
  generalize hAe : va_A [(h0, .inr (1, [.ref h1, .ref h2, .ref h3, .ref h4])), (h1, .inl (y0, 32768, .inl (fun _ => 0))), (h4, .inr (9, [.ref h5, .ref h6, .int 0, .int 0, .int 0, .int 0])), (h6, .inl (y1, 3, .inl (fun _ => 0))), (h5, .inl (y2, 3, .inl (fun _ => 0))), (h3, .inr (5, [.int 304, .int 0, .int 0, .int 0, .int 0, .int 0])), (h2, .inr (7, [.int 0, .int 0, .int 0, .int 0, .int 0]))] s.heap.size = A at hD ⊢
  have hA : ∀ q : Nat, s.heap.size ≤ q → A q := fun q h => by rw [← hAe]; exact Or.inr h
  have hS : va_S A s.heap s.heap [] := va_S.rf
  have hP : va_P (dC, dI) vwCl [(h0, .inr (1, [.ref h1, .ref h2, .ref h3, .ref h4])), (h1, .inl (y0, 32768, .inl (fun _ => 0))), (h4, .inr (9, [.ref h5, .ref h6, .int 0, .int 0, .int 0, .int 0])), (h6, .inl (y1, 3, .inl (fun _ => 0))), (h5, .inl (y2, 3, .inl (fun _ => 0))), (h3, .inr (5, [.int 304, .int 0, .int 0, .int 0, .int 0, .int 0])), (h2, .inr (7, [.int 0, .int 0, .int 0, .int 0, .int 0]))] s.heap := hP
  have hl := lv_entry ([.ref h0, .int x0, .int x1]) (n := 7) (Nat.le_of_ble_eq_true rfl)
  rw [lg_entry_eq]
  generalize (lg_sl ([.ref h0, .int x0, .int x1]) ++ List.replicate (7 - (lg_sl ([.ref h0, .int x0, .int x1])).length) Slot.unset).toArray = ls at hl ⊢
  have hl : lv_has ls 7 [(0, .ref h0), (1, .int x0), (2, .int x1)] := hl
  refine lv_iload_n hx hb dX1_writeByte_0 rfl (lv_at hl 1 rfl) ?_
  refine lv_ldc hx hb hown (hG _ wd_714) dX1_writeByte_1 ?_
  refine lv_iand hx hb dX1_writeByte_3 ?_
  refine lv_topi (fun v1 ev1 => ?_)
  have iv1 : iv v1 0 65535 := iv_eq ev1 (iv_and (x := x0) (iv_w (by decide : iv 65535 65535 65535) (by decide) (by decide) : iv 65535 0 65535))
  refine lv_istore_n (lv' := [(3, .int v1), (0, .ref h0), (1, .int x0), (2, .int x1)]) hx hb dX1_writeByte_4 rfl hl (by decide) rfl (fun ls hl => ?_)
  refine lv_iload_n hx hb dX1_writeByte_5 rfl (lv_at hl 0 rfl) ?_
  refine lv_sipush (v := 288) hx hb dX1_writeByte_6 (by decide) ?_
  refine lv_icmp_ge (tgt := 26) hx hb dX1_writeByte_9 (by decide) (fun c2 => ?_) (fun c2 => ?_)
  · skip
    have j3 : iv v1 288 65535 := iv_leR (by decide : iv 288 288 288) iv1 c2 (by decide)
    refine lv_iload_n hx hb dX1_writeByte_26 rfl (lv_at hl 0 rfl) ?_
    refine lv_ldc hx hb hown (hG _ wd_719) dX1_writeByte_27 ?_
    refine lv_iand hx hb dX1_writeByte_29 ?_
    refine lv_topi (fun v4 ev4 => ?_)
    have iv4 : iv v4 0 65534 := iv_eq ev4 (iv_and (x := v1) (iv_w (by decide : iv 65534 65534 65534) (by decide) (by decide) : iv 65534 0 65534))
    refine lv_istore (lv' := [(4, .int v4), (3, .int v1), (0, .ref h0), (1, .int x0), (2, .int x1)]) hx hb dX1_writeByte_30 hl (by decide) rfl (fun ls hl => ?_)
    refine lv_iload hx hb dX1_writeByte_32 (lv_at hl 0 rfl) ?_
    refine lv_sipush (v := 512) hx hb dX1_writeByte_34 (by decide) ?_
    refine lv_icmp_ge (tgt := 49) hx hb dX1_writeByte_37 (by decide) (fun c5 => ?_) (fun c5 => ?_)
    · skip
      have j6 : iv v4 512 65534 := iv_leR (by decide : iv 512 512 512) iv4 c5 (by decide)
      refine lv_aload_n hx hb dX1_writeByte_49 rfl (lv_at hl 2 rfl) ?_
      refine va_get (D := (dC, dI)) (ci := 1) (v := .ref h1) (C := RX1) (T := TX1) (N := 4) hx hb hG inGX1 hown hK hP 0 rfl rfl 0 (by decide) (hG _ wd_114) (fun _ h9 => h9) rfl dX1_writeByte_50 ?_
      refine lv_iload hx hb dX1_writeByte_53 (lv_at hl 0 rfl) ?_
      refine lv_iconst (v := 1) hx hb dX1_writeByte_55 (by decide) ?_
      refine lv_ishr hx hb dX1_writeByte_56 ?_
      refine lv_topi (fun v7 ev7 => ?_)
      have iv7 : iv v7 256 32767 := iv_eq ev7 (iv_shr 1 (by decide) j6 (by decide) (by decide))
      refine va_iald hx hb hK hP 1 0 rfl rfl (iv_in iv7 (by decide) (by decide) : vp_in v7 32768) dX1_writeByte_57 ?_
      refine lv_val (y := 0) rfl ?_
      refine lv_istore (lv' := [(5, .int 0), (4, .int v4), (3, .int v1), (0, .ref h0), (1, .int x0), (2, .int x1)]) hx hb dX1_writeByte_58 hl (by decide) rfl (fun ls hl => ?_)
      refine lv_iload_n hx hb dX1_writeByte_60 rfl (lv_at hl 2 rfl) ?_
      refine lv_iconst (v := 1) hx hb dX1_writeByte_61 (by decide) ?_
      refine lv_iand hx hb dX1_writeByte_62 ?_
      refine lv_topi (fun v8 ev8 => ?_)
      have iv8 : iv v8 0 1 := iv_eq ev8 (iv_and (x := v1) (iv_w (by decide : iv 1 1 1) (by decide) (by decide) : iv 1 0 1))
      refine lv_if_ne (tgt := 80) hx hb dX1_writeByte_63 (by decide) (fun c9 => ?_) (fun c9 => ?_)
      · skip
        have j10 : iv v8 1 1 := iv_neLo iv8 (by decide : iv 0 0 0) c9 (by decide)
        refine lv_iload hx hb dX1_writeByte_80 (lv_at hl 0 rfl) ?_
        refine lv_sipush (v := 255) hx hb dX1_writeByte_82 (by decide) ?_
        refine lv_iand hx hb dX1_writeByte_85 ?_
        refine lv_val (y := 0) (by decide +kernel) ?_
        refine lv_iload_n hx hb dX1_writeByte_86 rfl (lv_at hl 5 rfl) ?_
        refine lv_sipush (v := 255) hx hb dX1_writeByte_87 (by decide) ?_
        refine lv_iand hx hb dX1_writeByte_90 ?_
        refine lv_topi (fun v11 ev11 => ?_)
        have iv11 : iv v11 0 255 := iv_eq ev11 (iv_and (x := x1) (iv_w (by decide : iv 255 255 255) (by decide) (by decide) : iv 255 0 255))
        refine lv_bipush (v := 8) hx hb dX1_writeByte_91 (by decide) ?_
        refine lv_ishl hx hb dX1_writeByte_93 ?_
        refine lv_topi (fun v12 ev12 => ?_)
        refine lv_ior hx hb dX1_writeByte_94 ?_
        refine lv_val (y := v12) (z0_ior _) ?_
        refine lv_istore (lv' := [(6, .int v12), (5, .int 0), (4, .int v4), (3, .int v1), (0, .ref h0), (1, .int x0), (2, .int x1)]) hx hb dX1_writeByte_95 hl (by decide) rfl (fun ls hl => ?_)
        refine lv_iload hx hb dX1_writeByte_97 (lv_at hl 2 rfl) ?_
        refine lv_sipush (v := 512) hx hb dX1_writeByte_99 (by decide) ?_
        refine lv_icmp_lt (tgt := 119) hx hb dX1_writeByte_102 (by decide) (fun c => absurd c (iv_nlt j6 (by decide : iv 512 512 512) (by decide))) (fun _ => ?_)
        refine lv_aload_n hx hb dX1_writeByte_105 rfl (lv_at hl 4 rfl) ?_
        refine va_get (D := (dC, dI)) (ci := 1) (v := .ref h1) (C := RX1) (T := TX1) (N := 4) hx hb hG inGX1 hown hK hP 0 rfl rfl 0 (by decide) (hG _ wd_114) (fun _ h9 => h9) rfl dX1_writeByte_106 ?_
        refine lv_iload hx hb dX1_writeByte_109 (lv_at hl 2 rfl) ?_
        refine lv_iconst (v := 1) hx hb dX1_writeByte_111 (by decide) ?_
        refine lv_ishr hx hb dX1_writeByte_112 ?_
        refine lv_topi (fun v13 ev13 => ?_)
        have iv13 : iv v13 256 32767 := iv_eq ev13 (iv_shr 1 (by decide) j6 (by decide) (by decide))
        refine lv_iload hx hb dX1_writeByte_113 (lv_at hl 0 rfl) ?_
        refine va_iast hx hb hK hP hD hS 1 0 rfl rfl (iv_in iv13 (by decide) (by decide) : vp_in v13 32768) dX1_writeByte_115 (fun H locs hP hD hS => ?_)
        have hP : va_P (dC, dI) vwCl [(h0, .inr (1, [.ref h1, .ref h2, .ref h3, .ref h4])), (h1, .inl (y0, 32768, .inl (upd (fun _ => 0) v13.toNatClampNeg v12))), (h4, .inr (9, [.ref h5, .ref h6, .int 0, .int 0, .int 0, .int 0])), (h6, .inl (y1, 3, .inl (fun _ => 0))), (h5, .inl (y2, 3, .inl (fun _ => 0))), (h3, .inr (5, [.int 304, .int 0, .int 0, .int 0, .int 0, .int 0])), (h2, .inr (7, [.int 0, .int 0, .int 0, .int 0, .int 0]))] H := hP
        have hD : va_D A [(h0, .inr (1, [.ref h1, .ref h2, .ref h3, .ref h4])), (h1, .inl (y0, 32768, .inl (upd (fun _ => 0) v13.toNatClampNeg v12))), (h4, .inr (9, [.ref h5, .ref h6, .int 0, .int 0, .int 0, .int 0])), (h6, .inl (y1, 3, .inl (fun _ => 0))), (h5, .inl (y2, 3, .inl (fun _ => 0))), (h3, .inr (5, [.int 304, .int 0, .int 0, .int 0, .int 0, .int 0])), (h2, .inr (7, [.int 0, .int 0, .int 0, .int 0, .int 0]))] := hD
        obtain ⟨f14, ef14⟩ : ∃ z, z = upd (fun _ => 0) v13.toNatClampNeg v12 := ⟨_, rfl⟩
        rw [← ef14] at hP hD
        refine lv_goto (tgt := 127) hx hb dX1_writeByte_116 (by decide) ?_
        have hP9 := hP.sub (ws' := [(h0, .inr (1, [.ref h1, .ref h2, .ref h3, .ref h4])), (h1, .inl (y0, 32768, .inl f14)), (h4, .inr (9, [.ref h5, .ref h6, .int 0, .int 0, .int 0, .int 0])), (h6, .inl (y1, 3, .inl (fun _ => 0))), (h5, .inl (y2, 3, .inl (fun _ => 0))), (h3, .inr (5, [.int 304, .int 0, .int 0, .int 0, .int 0, .int 0])), (h2, .inr (7, [.int 0, .int 0, .int 0, .int 0, .int 0]))]) [0, 1, 2, 3, 4, 5, 6] rfl
        have hD9 := hD.sub (ws' := [(h0, .inr (1, [.ref h1, .ref h2, .ref h3, .ref h4])), (h1, .inl (y0, 32768, .inl f14)), (h4, .inr (9, [.ref h5, .ref h6, .int 0, .int 0, .int 0, .int 0])), (h6, .inl (y1, 3, .inl (fun _ => 0))), (h5, .inl (y2, 3, .inl (fun _ => 0))), (h3, .inr (5, [.int 304, .int 0, .int 0, .int 0, .int 0, .int 0])), (h2, .inr (7, [.int 0, .int 0, .int 0, .int 0, .int 0]))]) [0, 1, 2, 3, 4, 5, 6] (by decide) rfl
        have hK9 := hK.sub (tys' := [(y0, .int), (y1, .int), (y2, .int)]) [0, 1, 2] rfl
        exact W.vret hx hb hr (fun t ht hW => ⟨⟨(f14, 0, 0, (fun _ => 0), (fun _ => 0), 304, 0, 0, 0, 0, 0, 0, 0, 0), rfl, ⟨iv_w (by decide : iv 0 0 0) (by decide) (by decide), (fun _ => (by decide : iv 0 0 17)), iv_w (by decide : iv 304 304 304) (by decide) (by decide), iv_w (by decide : iv 0 0 0) (by decide) (by decide), iv_w (by decide : iv 0 0 0) (by decide) (by decide), iv_w (by decide : iv 0 0 0) (by decide) (by decide), iv_w (by decide : iv 0 0 0) (by decide) (by decide), trivial⟩, by rw [ht]; exact hP9, va_K.moved hW.alike hK9, hD9⟩, hS.F ht⟩) hS.2.2 dX1_writeByte_127
      · skip
        subst c9
        refine lv_iload hx hb dX1_writeByte_66 (lv_at hl 0 rfl) ?_
        refine lv_ldc hx hb hown (hG _ wd_740) dX1_writeByte_68 ?_
        refine lv_iand hx hb dX1_writeByte_70 ?_
        refine lv_val (y := 0) (by decide +kernel) ?_
        refine lv_iload_n hx hb dX1_writeByte_71 rfl (lv_at hl 5 rfl) ?_
        refine lv_sipush (v := 255) hx hb dX1_writeByte_72 (by decide) ?_
        refine lv_iand hx hb dX1_writeByte_75 ?_
        refine lv_topi (fun v15 ev15 => ?_)
        have iv15 : iv v15 0 255 := iv_eq ev15 (iv_and (x := x1) (iv_w (by decide : iv 255 255 255) (by decide) (by decide) : iv 255 0 255))
        refine lv_ior hx hb dX1_writeByte_76 ?_
        refine lv_val (y := v15) (z0_ior _) ?_
        refine lv_goto (tgt := 95) hx hb dX1_writeByte_77 (by decide) ?_
        refine lv_istore (lv' := [(6, .int v15), (5, .int 0), (4, .int v4), (3, .int v1), (0, .ref h0), (1, .int x0), (2, .int x1)]) hx hb dX1_writeByte_95 hl (by decide) rfl (fun ls hl => ?_)
        refine lv_iload hx hb dX1_writeByte_97 (lv_at hl 2 rfl) ?_
        refine lv_sipush (v := 512) hx hb dX1_writeByte_99 (by decide) ?_
        refine lv_icmp_lt (tgt := 119) hx hb dX1_writeByte_102 (by decide) (fun c => absurd c (iv_nlt j6 (by decide : iv 512 512 512) (by decide))) (fun _ => ?_)
        refine lv_aload_n hx hb dX1_writeByte_105 rfl (lv_at hl 4 rfl) ?_
        refine va_get (D := (dC, dI)) (ci := 1) (v := .ref h1) (C := RX1) (T := TX1) (N := 4) hx hb hG inGX1 hown hK hP 0 rfl rfl 0 (by decide) (hG _ wd_114) (fun _ h9 => h9) rfl dX1_writeByte_106 ?_
        refine lv_iload hx hb dX1_writeByte_109 (lv_at hl 2 rfl) ?_
        refine lv_iconst (v := 1) hx hb dX1_writeByte_111 (by decide) ?_
        refine lv_ishr hx hb dX1_writeByte_112 ?_
        refine lv_topi (fun v16 ev16 => ?_)
        have iv16 : iv v16 256 32767 := iv_eq ev16 (iv_shr 1 (by decide) j6 (by decide) (by decide))
        refine lv_iload hx hb dX1_writeByte_113 (lv_at hl 0 rfl) ?_
        refine va_iast hx hb hK hP hD hS 1 0 rfl rfl (iv_in iv16 (by decide) (by decide) : vp_in v16 32768) dX1_writeByte_115 (fun H locs hP hD hS => ?_)
        have hP : va_P (dC, dI) vwCl [(h0, .inr (1, [.ref h1, .ref h2, .ref h3, .ref h4])), (h1, .inl (y0, 32768, .inl (upd (fun _ => 0) v16.toNatClampNeg v15))), (h4, .inr (9, [.ref h5, .ref h6, .int 0, .int 0, .int 0, .int 0])), (h6, .inl (y1, 3, .inl (fun _ => 0))), (h5, .inl (y2, 3, .inl (fun _ => 0))), (h3, .inr (5, [.int 304, .int 0, .int 0, .int 0, .int 0, .int 0])), (h2, .inr (7, [.int 0, .int 0, .int 0, .int 0, .int 0]))] H := hP
        have hD : va_D A [(h0, .inr (1, [.ref h1, .ref h2, .ref h3, .ref h4])), (h1, .inl (y0, 32768, .inl (upd (fun _ => 0) v16.toNatClampNeg v15))), (h4, .inr (9, [.ref h5, .ref h6, .int 0, .int 0, .int 0, .int 0])), (h6, .inl (y1, 3, .inl (fun _ => 0))), (h5, .inl (y2, 3, .inl (fun _ => 0))), (h3, .inr (5, [.int 304, .int 0, .int 0, .int 0, .int 0, .int 0])), (h2, .inr (7, [.int 0, .int 0, .int 0, .int 0, .int 0]))] := hD
        obtain ⟨f17, ef17⟩ : ∃ z, z = upd (fun _ => 0) v16.toNatClampNeg v15 := ⟨_, rfl⟩
        rw [← ef17] at hP hD
        have if17 : ∀ j, iv (f17 j) 0 255 := by rw [ef17]; exact iv_upd (fun _ => (by decide : iv 0 0 0)) iv15 (by decide) (by decide) (by decide) (by decide)
        refine lv_goto (tgt := 127) hx hb dX1_writeByte_116 (by decide) ?_
        have hP9 := hP.sub (ws' := [(h0, .inr (1, [.ref h1, .ref h2, .ref h3, .ref h4])), (h1, .inl (y0, 32768, .inl f17)), (h4, .inr (9, [.ref h5, .ref h6, .int 0, .int 0, .int 0, .int 0])), (h6, .inl (y1, 3, .inl (fun _ => 0))), (h5, .inl (y2, 3, .inl (fun _ => 0))), (h3, .inr (5, [.int 304, .int 0, .int 0, .int 0, .int 0, .int 0])), (h2, .inr (7, [.int 0, .int 0, .int 0, .int 0, .int 0]))]) [0, 1, 2, 3, 4, 5, 6] rfl
        have hD9 := hD.sub (ws' := [(h0, .inr (1, [.ref h1, .ref h2, .ref h3, .ref h4])), (h1, .inl (y0, 32768, .inl f17)), (h4, .inr (9, [.ref h5, .ref h6, .int 0, .int 0, .int 0, .int 0])), (h6, .inl (y1, 3, .inl (fun _ => 0))), (h5, .inl (y2, 3, .inl (fun _ => 0))), (h3, .inr (5, [.int 304, .int 0, .int 0, .int 0, .int 0, .int 0])), (h2, .inr (7, [.int 0, .int 0, .int 0, .int 0, .int 0]))]) [0, 1, 2, 3, 4, 5, 6] (by decide) rfl
        have hK9 := hK.sub (tys' := [(y0, .int), (y1, .int), (y2, .int)]) [0, 1, 2] rfl
        exact W.vret hx hb hr (fun t ht hW => ⟨⟨(f17, 0, 0, (fun _ => 0), (fun _ => 0), 304, 0, 0, 0, 0, 0, 0, 0, 0), rfl, ⟨iv_w (by decide : iv 0 0 0) (by decide) (by decide), (fun _ => (by decide : iv 0 0 17)), iv_w (by decide : iv 304 304 304) (by decide) (by decide), iv_w (by decide : iv 0 0 0) (by decide) (by decide), iv_w (by decide : iv 0 0 0) (by decide) (by decide), iv_w (by decide : iv 0 0 0) (by decide) (by decide), iv_w (by decide : iv 0 0 0) (by decide) (by decide), trivial⟩, by rw [ht]; exact hP9, va_K.moved hW.alike hK9, hD9⟩, hS.F ht⟩) hS.2.2 dX1_writeByte_127
    · skip
      have j18 : iv v4 0 511 := iv_nleR (by decide : iv 512 512 512) iv4 c5 (by decide)
      refine lv_aload_n hx hb dX1_writeByte_40 rfl (lv_at hl 2 rfl) ?_
      refine lv_iload hx hb dX1_writeByte_41 (lv_at hl 0 rfl) ?_
      have hPc := hP.sub (ws' := [(h0, .inr (1, [.ref h1, .ref h2, .ref h3, .ref h4])), (h4, .inr (9, [.ref h5, .ref h6, .int 0, .int 0, .int 0, .int 0])), (h6, .inl (y1, 3, .inl (fun _ => 0))), (h5, .inl (y2, 3, .inl (fun _ => 0))), (h3, .inr (5, [.int 304, .int 0, .int 0, .int 0, .int 0, .int 0])), (h2, .inr (7, [.int 0, .int 0, .int 0, .int 0, .int 0]))]) [0, 2, 3, 4, 5, 6] rfl
      have hDc := hD.sub (ws' := [(h0, .inr (1, [.ref h1, .ref h2, .ref h3, .ref h4])), (h4, .inr (9, [.ref h5, .ref h6, .int 0, .int 0, .int 0, .int 0])), (h6, .inl (y1, 3, .inl (fun _ => 0))), (h5, .inl (y2, 3, .inl (fun _ => 0))), (h3, .inr (5, [.int 304, .int 0, .int 0, .int 0, .int 0, .int 0])), (h2, .inr (7, [.int 0, .int 0, .int 0, .int 0, .int 0]))]) [0, 2, 3, 4, 5, 6] (by decide) rfl
      have hKc := hK.sub (tys' := [(y1, .int), (y2, .int)]) [1, 2] rfl
      have hFc := va_free (wc := [(h0, .inr (1, [.ref h1, .ref h2, .ref h3, .ref h4])), (h4, .inr (9, [.ref h5, .ref h6, .int 0, .int 0, .int 0, .int 0])), (h6, .inl (y1, 3, .inl (fun _ => 0))), (h5, .inl (y2, 3, .inl (fun _ => 0))), (h3, .inr (5, [.int 304, .int 0, .int 0, .int 0, .int 0, .int 0])), (h2, .inr (7, [.int 0, .int 0, .int 0, .int 0, .int 0]))]) hD hS hA [0, 2, 3, 4, 5, 6] rfl
      refine va_calli (va_runV (As := [.int v4]) (rest := []) ⟨hx, hb, hml, hown, hG⟩ (cX1_thingWord_2 l dC dI h0 h1 h2 h3 h4 h5 h6 y1 y2 s.heap.size v4 j18) (cwV 1 hG (gV wd_720 wd_722 wp_27 wd_2 wd_723) rfl rfl rfl (by decide +kernel) ⟨Nat.le_of_ble_eq_true rfl, Nat.le_of_ble_eq_true rfl⟩) ⟨fun a U g mk q => by obtain ⟨q0, q1, qP, qK, qD⟩ := q; exact ⟨q0, q1, qP, va_K.moved (u := U) (U := U.calling g mk a) (Vm.Alike.refl U.vm) qK, qD⟩, va_recv hKc hPc (ci := 1) (q0 := 0) rfl rfl, fun U hU hW => ⟨rfl, by rw [hU], by rw [hU]; exact hPc, va_K.moved hW.alike hKc, hDc.weaken (fun _ _ _ _ => trivial)⟩⟩ rfl rfl hl.1 rfl (lv_room (Nat.le_of_ble_eq_true rfl)) dX1_writeByte_43 ⟨by decide, by decide⟩) hS (fun q _ h => hFc q h) hFc (fun r19 u20 t H1 locs ht hvm hw hB hz1 hk1 hS => ?_)
      have hw : r19 = 0 ∧ True := hw
      obtain ⟨er19, -⟩ := hw
      obtain ⟨hP1, hK1, hD1⟩ := hB
      rw [ht] at hP1
      have hK1 := va_K.moved hvm.symm hK1
      obtain ⟨hP, hD⟩ := va_join (wr := [(h1, .inl (y0, 32768, .inl (fun _ => 0)))]) (w1 := [(h0, .inr (1, [.ref h1, .ref h2, .ref h3, .ref h4])), (h4, .inr (9, [.ref h5, .ref h6, .int 0, .int 0, .int 0, .int 0])), (h6, .inl (y1, 3, .inl (fun _ => 0))), (h5, .inl (y2, 3, .inl (fun _ => 0))), (h3, .inr (5, [.int 304, .int 0, .int 0, .int 0, .int 0, .int 0])), (h2, .inr (7, [.int 0, .int 0, .int 0, .int 0, .int 0]))]) hP hD [0, 2, 3, 4, 5, 6] [1] rfl rfl (by decide) (by decide) hk1 hFc hP1 hD1
      have hK := (hK.sub (tys' := [(y0, .int)]) [0] rfl).app hK1
      generalize H1 = H at hP hS ⊢
      have hP : va_P (dC, dI) vwCl [(h1, .inl (y0, 32768, .inl (fun _ => 0))), (h0, .inr (1, [.ref h1, .ref h2, .ref h3, .ref h4])), (h4, .inr (9, [.ref h5, .ref h6, .int 0, .int 0, .int 0, .int 0])), (h6, .inl (y1, 3, .inl (fun _ => 0))), (h5, .inl (y2, 3, .inl (fun _ => 0))), (h3, .inr (5, [.int 304, .int 0, .int 0, .int 0, .int 0, .int 0])), (h2, .inr (7, [.int 0, .int 0, .int 0, .int 0, .int 0]))] H := hP
      have hD : va_D A [(h1, .inl (y0, 32768, .inl (fun _ => 0))), (h0, .inr (1, [.ref h1, .ref h2, .ref h3, .ref h4])), (h4, .inr (9, [.ref h5, .ref h6, .int 0, .int 0, .int 0, .int 0])), (h6, .inl (y1, 3, .inl (fun _ => 0))), (h5, .inl (y2, 3, .inl (fun _ => 0))), (h3, .inr (5, [.int 304, .int 0, .int 0, .int 0, .int 0, .int 0])), (h2, .inr (7, [.int 0, .int 0, .int 0, .int 0, .int 0]))] := hD
      have hK : va_K (dC, dI) vwCl [(y0, .int), (y1, .int), (y2, .int)] s := hK
      subst er19
      refine lv_goto (tgt := 58) hx hb dX1_writeByte_46 (by decide) ?_
      refine lv_istore (lv' := [(5, .int 0), (4, .int v4), (3, .int v1), (0, .ref h0), (1, .int x0), (2, .int x1)]) hx hb dX1_writeByte_58 hl (by decide) rfl (fun ls hl => ?_)
      refine lv_iload_n hx hb dX1_writeByte_60 rfl (lv_at hl 2 rfl) ?_
      refine lv_iconst (v := 1) hx hb dX1_writeByte_61 (by decide) ?_
      refine lv_iand hx hb dX1_writeByte_62 ?_
      refine lv_topi (fun v21 ev21 => ?_)
      have iv21 : iv v21 0 1 := iv_eq ev21 (iv_and (x := v1) (iv_w (by decide : iv 1 1 1) (by decide) (by decide) : iv 1 0 1))
      refine lv_if_ne (tgt := 80) hx hb dX1_writeByte_63 (by decide) (fun c22 => ?_) (fun c22 => ?_)
      · skip
        have j23 : iv v21 1 1 := iv_neLo iv21 (by decide : iv 0 0 0) c22 (by decide)
        refine lv_iload hx hb dX1_writeByte_80 (lv_at hl 0 rfl) ?_
        refine lv_sipush (v := 255) hx hb dX1_writeByte_82 (by decide) ?_
        refine lv_iand hx hb dX1_writeByte_85 ?_
        refine lv_val (y := 0) (by decide +kernel) ?_
        refine lv_iload_n hx hb dX1_writeByte_86 rfl (lv_at hl 5 rfl) ?_
        refine lv_sipush (v := 255) hx hb dX1_writeByte_87 (by decide) ?_
        refine lv_iand hx hb dX1_writeByte_90 ?_
        refine lv_topi (fun v24 ev24 => ?_)
        have iv24 : iv v24 0 255 := iv_eq ev24 (iv_and (x := x1) (iv_w (by decide : iv 255 255 255) (by decide) (by decide) : iv 255 0 255))
        refine lv_bipush (v := 8) hx hb dX1_writeByte_91 (by decide) ?_
        refine lv_ishl hx hb dX1_writeByte_93 ?_
        refine lv_topi (fun v25 ev25 => ?_)
        refine lv_ior hx hb dX1_writeByte_94 ?_
        refine lv_val (y := v25) (z0_ior _) ?_
        refine lv_istore (lv' := [(6, .int v25), (5, .int 0), (4, .int v4), (3, .int v1), (0, .ref h0), (1, .int x0), (2, .int x1)]) hx hb dX1_writeByte_95 hl (by decide) rfl (fun ls hl => ?_)
        refine lv_iload hx hb dX1_writeByte_97 (lv_at hl 2 rfl) ?_
        refine lv_sipush (v := 512) hx hb dX1_writeByte_99 (by decide) ?_
        refine lv_icmp_lt (tgt := 119) hx hb dX1_writeByte_102 (by decide) (fun _ => ?_) (fun c => absurd (iv_lt j18 (by decide : iv 512 512 512) (by decide)) c)
        refine lv_aload_n hx hb dX1_writeByte_119 rfl (lv_at hl 4 rfl) ?_
        refine lv_iload hx hb dX1_writeByte_120 (lv_at hl 2 rfl) ?_
        refine lv_iload hx hb dX1_writeByte_122 (lv_at hl 0 rfl) ?_
        have hPc := hP.sub (ws' := [(h0, .inr (1, [.ref h1, .ref h2, .ref h3, .ref h4])), (h4, .inr (9, [.ref h5, .ref h6, .int 0, .int 0, .int 0, .int 0])), (h6, .inl (y1, 3, .inl (fun _ => 0))), (h5, .inl (y2, 3, .inl (fun _ => 0))), (h3, .inr (5, [.int 304, .int 0, .int 0, .int 0, .int 0, .int 0]))]) [1, 2, 3, 4, 5] rfl
        have hDc := hD.sub (ws' := [(h0, .inr (1, [.ref h1, .ref h2, .ref h3, .ref h4])), (h4, .inr (9, [.ref h5, .ref h6, .int 0, .int 0, .int 0, .int 0])), (h6, .inl (y1, 3, .inl (fun _ => 0))), (h5, .inl (y2, 3, .inl (fun _ => 0))), (h3, .inr (5, [.int 304, .int 0, .int 0, .int 0, .int 0, .int 0]))]) [1, 2, 3, 4, 5] (by decide) rfl
        have hKc := hK.sub (tys' := [(y1, .int), (y2, .int)]) [1, 2] rfl
        have hFc := va_free (wc := [(h0, .inr (1, [.ref h1, .ref h2, .ref h3, .ref h4])), (h4, .inr (9, [.ref h5, .ref h6, .int 0, .int 0, .int 0, .int 0])), (h6, .inl (y1, 3, .inl (fun _ => 0))), (h5, .inl (y2, 3, .inl (fun _ => 0))), (h3, .inr (5, [.int 304, .int 0, .int 0, .int 0, .int 0, .int 0]))]) hD hS hA [1, 2, 3, 4, 5] rfl
        refine va_callv (va_runV (As := [.int v4, .int v25]) (rest := []) ⟨hx, hb, hml, hown, hG⟩ (cX1_writeThing_1 l dC dI h0 h1 h2 h3 h4 h5 h6 y1 y2 H.size v4 v25 j18) (cwV 2 hG (gV wd_741 wd_743 wp_28 wd_2 wd_744) rfl rfl rfl (by decide +kernel) ⟨Nat.le_of_ble_eq_true rfl, Nat.le_of_ble_eq_true rfl⟩) ⟨fun a U g mk q => by obtain ⟨q0, q1, qP, qK, qD⟩ := q; exact ⟨q0, q1, qP, va_K.moved (u := U) (U := U.calling g mk a) (Vm.Alike.refl U.vm) qK, qD⟩, va_recv hKc hPc (ci := 1) (q0 := 0) rfl rfl, fun U hU hW => ⟨rfl, by rw [hU], by rw [hU]; exact hPc, va_K.moved hW.alike hKc, hDc.weaken (fun _ _ _ _ => trivial)⟩⟩ rfl rfl hl.1 rfl (lv_room (Nat.le_of_ble_eq_true rfl)) dX1_writeByte_124 ⟨by decide, by decide⟩) hS (fun q _ h => hFc q h) hFc (fun u27 t H1 locs ht hvm hw hB hz1 hk1 hS => ?_)
        obtain ⟨u27_0, u27_1, u27_2, u27_3, u27_4, u27_5, u27_6, u27_7, u27_8⟩ := u27
        have hw : iv u27_0 0 65531 ∧ (∀ j, iv (u27_3 j) 0 17) ∧ iv u27_4 304 308 ∧ True := hw
        obtain ⟨iu27_0, iu27_3, iu27_4, -⟩ := hw
        obtain ⟨hP1, hK1, hD1⟩ := hB
        rw [ht] at hP1
        have hK1 := va_K.moved hvm.symm hK1
        obtain ⟨hP, hD⟩ := va_join (wr := [(h1, .inl (y0, 32768, .inl (fun _ => 0))), (h2, .inr (7, [.int 0, .int 0, .int 0, .int 0, .int 0]))]) (w1 := [(h0, .inr (1, [.ref h1, .ref h2, .ref h3, .ref h4])), (h4, .inr (9, [.ref h5, .ref h6, .int u27_0, .int u27_1, .int 0, .int 0])), (h6, .inl (y1, 3, .inl u27_2)), (h5, .inl (y2, 3, .inl u27_3)), (h3, .inr (5, [.int u27_4, .int u27_5, .int u27_6, .int u27_7, .int u27_8, .int 0]))]) hP hD [1, 2, 3, 4, 5] [0, 6] rfl rfl (by decide) (by decide) hk1 hFc hP1 hD1
        have hK := (hK.sub (tys' := [(y0, .int)]) [0] rfl).app hK1
        generalize H1 = H at hP hS ⊢
        have hP : va_P (dC, dI) vwCl [(h1, .inl (y0, 32768, .inl (fun _ => 0))), (h2, .inr (7, [.int 0, .int 0, .int 0, .int 0, .int 0])), (h0, .inr (1, [.ref h1, .ref h2, .ref h3, .ref h4])), (h4, .inr (9, [.ref h5, .ref h6, .int u27_0, .int u27_1, .int 0, .int 0])), (h6, .inl (y1, 3, .inl u27_2)), (h5, .inl (y2, 3, .inl u27_3)), (h3, .inr (5, [.int u27_4, .int u27_5, .int u27_6, .int u27_7, .int u27_8, .int 0]))] H := hP
        have hD : va_D A [(h1, .inl (y0, 32768, .inl (fun _ => 0))), (h2, .inr (7, [.int 0, .int 0, .int 0, .int 0, .int 0])), (h0, .inr (1, [.ref h1, .ref h2, .ref h3, .ref h4])), (h4, .inr (9, [.ref h5, .ref h6, .int u27_0, .int u27_1, .int 0, .int 0])), (h6, .inl (y1, 3, .inl u27_2)), (h5, .inl (y2, 3, .inl u27_3)), (h3, .inr (5, [.int u27_4, .int u27_5, .int u27_6, .int u27_7, .int u27_8, .int 0]))] := hD
        have hK : va_K (dC, dI) vwCl [(y0, .int), (y1, .int), (y2, .int)] s := hK
        have hP9 := hP.sub (ws' := [(h0, .inr (1, [.ref h1, .ref h2, .ref h3, .ref h4])), (h1, .inl (y0, 32768, .inl (fun _ => 0))), (h4, .inr (9, [.ref h5, .ref h6, .int u27_0, .int u27_1, .int 0, .int 0])), (h6, .inl (y1, 3, .inl u27_2)), (h5, .inl (y2, 3, .inl u27_3)), (h3, .inr (5, [.int u27_4, .int u27_5, .int u27_6, .int u27_7, .int u27_8, .int 0])), (h2, .inr (7, [.int 0, .int 0, .int 0, .int 0, .int 0]))]) [2, 0, 3, 4, 5, 6, 1] rfl
        have hD9 := hD.sub (ws' := [(h0, .inr (1, [.ref h1, .ref h2, .ref h3, .ref h4])), (h1, .inl (y0, 32768, .inl (fun _ => 0))), (h4, .inr (9, [.ref h5, .ref h6, .int u27_0, .int u27_1, .int 0, .int 0])), (h6, .inl (y1, 3, .inl u27_2)), (h5, .inl (y2, 3, .inl u27_3)), (h3, .inr (5, [.int u27_4, .int u27_5, .int u27_6, .int u27_7, .int u27_8, .int 0])), (h2, .inr (7, [.int 0, .int 0, .int 0, .int 0, .int 0]))]) [2, 0, 3, 4, 5, 6, 1] (by decide) rfl
        have hK9 := hK.sub (tys' := [(y0, .int), (y1, .int), (y2, .int)]) [0, 1, 2] rfl
        exact W.vret hx hb hr (fun t ht hW => ⟨⟨((fun _ => 0), u27_0, u27_1, u27_2, u27_3, u27_4, u27_5, u27_6, u27_7, u27_8, 0, 0, 0, 0), rfl, ⟨iv_w iu27_0 (by decide) (by decide), (fun j => iv_w (iu27_3 j) (by decide) (by decide)), iv_w iu27_4 (by decide) (by decide), iv_w (by decide : iv 0 0 0) (by decide) (by decide), iv_w (by decide : iv 0 0 0) (by decide) (by decide), iv_w (by decide : iv 0 0 0) (by decide) (by decide), iv_w (by decide : iv 0 0 0) (by decide) (by decide), trivial⟩, by rw [ht]; exact hP9, va_K.moved hW.alike hK9, hD9⟩, hS.F ht⟩) hS.2.2 dX1_writeByte_127
      · skip
        subst c22
        refine lv_iload hx hb dX1_writeByte_66 (lv_at hl 0 rfl) ?_
        refine lv_ldc hx hb hown (hG _ wd_740) dX1_writeByte_68 ?_
        refine lv_iand hx hb dX1_writeByte_70 ?_
        refine lv_val (y := 0) (by decide +kernel) ?_
        refine lv_iload_n hx hb dX1_writeByte_71 rfl (lv_at hl 5 rfl) ?_
        refine lv_sipush (v := 255) hx hb dX1_writeByte_72 (by decide) ?_
        refine lv_iand hx hb dX1_writeByte_75 ?_
        refine lv_topi (fun v28 ev28 => ?_)
        have iv28 : iv v28 0 255 := iv_eq ev28 (iv_and (x := x1) (iv_w (by decide : iv 255 255 255) (by decide) (by decide) : iv 255 0 255))
        refine lv_ior hx hb dX1_writeByte_76 ?_
        refine lv_val (y := v28) (z0_ior _) ?_
        refine lv_goto (tgt := 95) hx hb dX1_writeByte_77 (by decide) ?_
        refine lv_istore (lv' := [(6, .int v28), (5, .int 0), (4, .int v4), (3, .int v1), (0, .ref h0), (1, .int x0), (2, .int x1)]) hx hb dX1_writeByte_95 hl (by decide) rfl (fun ls hl => ?_)
        refine lv_iload hx hb dX1_writeByte_97 (lv_at hl 2 rfl) ?_
        refine lv_sipush (v := 512) hx hb dX1_writeByte_99 (by decide) ?_
        refine lv_icmp_lt (tgt := 119) hx hb dX1_writeByte_102 (by decide) (fun _ => ?_) (fun c => absurd (iv_lt j18 (by decide : iv 512 512 512) (by decide)) c)
        refine lv_aload_n hx hb dX1_writeByte_119 rfl (lv_at hl 4 rfl) ?_
        refine lv_iload hx hb dX1_writeByte_120 (lv_at hl 2 rfl) ?_
        refine lv_iload hx hb dX1_writeByte_122 (lv_at hl 0 rfl) ?_
        have hPc := hP.sub (ws' := [(h0, .inr (1, [.ref h1, .ref h2, .ref h3, .ref h4])), (h4, .inr (9, [.ref h5, .ref h6, .int 0, .int 0, .int 0, .int 0])), (h6, .inl (y1, 3, .inl (fun _ => 0))), (h5, .inl (y2, 3, .inl (fun _ => 0))), (h3, .inr (5, [.int 304, .int 0, .int 0, .int 0, .int 0, .int 0]))]) [1, 2, 3, 4, 5] rfl
        have hDc := hD.sub (ws' := [(h0, .inr (1, [.ref h1, .ref h2, .ref h3, .ref h4])), (h4, .inr (9, [.ref h5, .ref h6, .int 0, .int 0, .int 0, .int 0])), (h6, .inl (y1, 3, .inl (fun _ => 0))), (h5, .inl (y2, 3, .inl (fun _ => 0))), (h3, .inr (5, [.int 304, .int 0, .int 0, .int 0, .int 0, .int 0]))]) [1, 2, 3, 4, 5] (by decide) rfl
        have hKc := hK.sub (tys' := [(y1, .int), (y2, .int)]) [1, 2] rfl
        have hFc := va_free (wc := [(h0, .inr (1, [.ref h1, .ref h2, .ref h3, .ref h4])), (h4, .inr (9, [.ref h5, .ref h6, .int 0, .int 0, .int 0, .int 0])), (h6, .inl (y1, 3, .inl (fun _ => 0))), (h5, .inl (y2, 3, .inl (fun _ => 0))), (h3, .inr (5, [.int 304, .int 0, .int 0, .int 0, .int 0, .int 0]))]) hD hS hA [1, 2, 3, 4, 5] rfl
        refine va_callv (va_runV (As := [.int v4, .int v28]) (rest := []) ⟨hx, hb, hml, hown, hG⟩ (cX1_writeThing_2 l dC dI h0 h1 h2 h3 h4 h5 h6 y1 y2 H.size v4 v28 j18 iv28) (cwV 2 hG (gV wd_741 wd_743 wp_28 wd_2 wd_744) rfl rfl rfl (by decide +kernel) ⟨Nat.le_of_ble_eq_true rfl, Nat.le_of_ble_eq_true rfl⟩) ⟨fun a U g mk q => by obtain ⟨q0, q1, qP, qK, qD⟩ := q; exact ⟨q0, q1, qP, va_K.moved (u := U) (U := U.calling g mk a) (Vm.Alike.refl U.vm) qK, qD⟩, va_recv hKc hPc (ci := 1) (q0 := 0) rfl rfl, fun U hU hW => ⟨rfl, by rw [hU], by rw [hU]; exact hPc, va_K.moved hW.alike hKc, hDc.weaken (fun _ _ _ _ => trivial)⟩⟩ rfl rfl hl.1 rfl (lv_room (Nat.le_of_ble_eq_true rfl)) dX1_writeByte_124 ⟨by decide, by decide⟩) hS (fun q _ h => hFc q h) hFc (fun u30 t H1 locs ht hvm hw hB hz1 hk1 hS => ?_)
        obtain ⟨u30_0, u30_1, u30_2, u30_3, u30_4, u30_5, u30_6, u30_7, u30_8⟩ := u30
        have hw : iv u30_0 0 255 ∧ iv u30_1 0 255 ∧ (∀ j, iv (u30_2 j) 0 255) ∧ (∀ j, iv (u30_3 j) 0 17) ∧ iv u30_4 304 308 ∧ iv u30_5 0 255 ∧ iv u30_6 0 255 ∧ iv u30_7 0 65535 ∧ iv u30_8 0 65535 ∧ True := hw
        obtain ⟨iu30_0, iu30_1, iu30_2, iu30_3, iu30_4, iu30_5, iu30_6, iu30_7, iu30_8, -⟩ := hw
        obtain ⟨hP1, hK1, hD1⟩ := hB
        rw [ht] at hP1
        have hK1 := va_K.moved hvm.symm hK1
        obtain ⟨hP, hD⟩ := va_join (wr := [(h1, .inl (y0, 32768, .inl (fun _ => 0))), (h2, .inr (7, [.int 0, .int 0, .int 0, .int 0, .int 0]))]) (w1 := [(h0, .inr (1, [.ref h1, .ref h2, .ref h3, .ref h4])), (h4, .inr (9, [.ref h5, .ref h6, .int u30_0, .int u30_1, .int 0, .int 0])), (h6, .inl (y1, 3, .inl u30_2)), (h5, .inl (y2, 3, .inl u30_3)), (h3, .inr (5, [.int u30_4, .int u30_5, .int u30_6, .int u30_7, .int u30_8, .int 0]))]) hP hD [1, 2, 3, 4, 5] [0, 6] rfl rfl (by decide) (by decide) hk1 hFc hP1 hD1
        have hK := (hK.sub (tys' := [(y0, .int)]) [0] rfl).app hK1
        generalize H1 = H at hP hS ⊢
        have hP : va_P (dC, dI) vwCl [(h1, .inl (y0, 32768, .inl (fun _ => 0))), (h2, .inr (7, [.int 0, .int 0, .int 0, .int 0, .int 0])), (h0, .inr (1, [.ref h1, .ref h2, .ref h3, .ref h4])), (h4, .inr (9, [.ref h5, .ref h6, .int u30_0, .int u30_1, .int 0, .int 0])), (h6, .inl (y1, 3, .inl u30_2)), (h5, .inl (y2, 3, .inl u30_3)), (h3, .inr (5, [.int u30_4, .int u30_5, .int u30_6, .int u30_7, .int u30_8, .int 0]))] H := hP
        have hD : va_D A [(h1, .inl (y0, 32768, .inl (fun _ => 0))), (h2, .inr (7, [.int 0, .int 0, .int 0, .int 0, .int 0])), (h0, .inr (1, [.ref h1, .ref h2, .ref h3, .ref h4])), (h4, .inr (9, [.ref h5, .ref h6, .int u30_0, .int u30_1, .int 0, .int 0])), (h6, .inl (y1, 3, .inl u30_2)), (h5, .inl (y2, 3, .inl u30_3)), (h3, .inr (5, [.int u30_4, .int u30_5, .int u30_6, .int u30_7, .int u30_8, .int 0]))] := hD
        have hK : va_K (dC, dI) vwCl [(y0, .int), (y1, .int), (y2, .int)] s := hK
        have hP9 := hP.sub (ws' := [(h0, .inr (1, [.ref h1, .ref h2, .ref h3, .ref h4])), (h1, .inl (y0, 32768, .inl (fun _ => 0))), (h4, .inr (9, [.ref h5, .ref h6, .int u30_0, .int u30_1, .int 0, .int 0])), (h6, .inl (y1, 3, .inl u30_2)), (h5, .inl (y2, 3, .inl u30_3)), (h3, .inr (5, [.int u30_4, .int u30_5, .int u30_6, .int u30_7, .int u30_8, .int 0])), (h2, .inr (7, [.int 0, .int 0, .int 0, .int 0, .int 0]))]) [2, 0, 3, 4, 5, 6, 1] rfl
        have hD9 := hD.sub (ws' := [(h0, .inr (1, [.ref h1, .ref h2, .ref h3, .ref h4])), (h1, .inl (y0, 32768, .inl (fun _ => 0))), (h4, .inr (9, [.ref h5, .ref h6, .int u30_0, .int u30_1, .int 0, .int 0])), (h6, .inl (y1, 3, .inl u30_2)), (h5, .inl (y2, 3, .inl u30_3)), (h3, .inr (5, [.int u30_4, .int u30_5, .int u30_6, .int u30_7, .int u30_8, .int 0])), (h2, .inr (7, [.int 0, .int 0, .int 0, .int 0, .int 0]))]) [2, 0, 3, 4, 5, 6, 1] (by decide) rfl
        have hK9 := hK.sub (tys' := [(y0, .int), (y1, .int), (y2, .int)]) [0, 1, 2] rfl
        exact W.vret hx hb hr (fun t ht hW => ⟨⟨((fun _ => 0), u30_0, u30_1, u30_2, u30_3, u30_4, u30_5, u30_6, u30_7, u30_8, 0, 0, 0, 0), rfl, ⟨iv_w iu30_0 (by decide) (by decide), (fun j => iv_w (iu30_3 j) (by decide) (by decide)), iv_w iu30_4 (by decide) (by decide), iv_w (by decide : iv 0 0 0) (by decide) (by decide), iv_w (by decide : iv 0 0 0) (by decide) (by decide), iv_w (by decide : iv 0 0 0) (by decide) (by decide), iv_w (by decide : iv 0 0 0) (by decide) (by decide), trivial⟩, by rw [ht]; exact hP9, va_K.moved hW.alike hK9, hD9⟩, hS.F ht⟩) hS.2.2 dX1_writeByte_127
  · skip
    have j31 : iv v1 0 287 := iv_nleR (by decide : iv 288 288 288) iv1 c2 (by decide)
    refine lv_aload_n hx hb dX1_writeByte_12 rfl (lv_at hl 1 rfl) ?_
    refine va_get (D := (dC, dI)) (ci := 1) (v := .ref h2) (C := RX1) (T := TX1) (N := 4) hx hb hG inGX1 hown hK hP 0 rfl rfl 1 (by decide) (hG _ wd_115) (fun _ h9 => h9) rfl dX1_writeByte_13 ?_
    refine lv_iload_n hx hb dX1_writeByte_16 rfl (lv_at hl 0 rfl) ?_
    refine lv_iload_n hx hb dX1_writeByte_17 rfl (lv_at hl 3 rfl) ?_
    refine lv_sipush (v := 255) hx hb dX1_writeByte_18 (by decide) ?_
    refine lv_iand hx hb dX1_writeByte_21 ?_
    refine lv_topi (fun v32 ev32 => ?_)
    have iv32 : iv v32 0 255 := iv_eq ev32 (iv_and (x := x1) (iv_w (by decide : iv 255 255 255) (by decide) (by decide) : iv 255 0 255))
    have hPc := hP.sub (ws' := [(h2, .inr (7, [.int 0, .int 0, .int 0, .int 0, .int 0]))]) [6] rfl
    have hDc := hD.sub (ws' := [(h2, .inr (7, [.int 0, .int 0, .int 0, .int 0, .int 0]))]) [6] (by decide) rfl
    have hKc := hK.sub (tys' := []) [] rfl
    have hFc := va_free (wc := [(h2, .inr (7, [.int 0, .int 0, .int 0, .int 0, .int 0]))]) hD hS hA [6] rfl
    refine va_callv (va_runV (As := [.int v1, .int v32]) (rest := []) ⟨hx, hb, hml, hown, hG⟩ (cX7_write_1 l dC dI h2 s.heap.size v1 v32 j31 iv32) (cwV 2 hG (gV wd_715 wd_716 wd_717 wd_3 wd_718) rfl rfl rfl (by decide +kernel) ⟨Nat.le_of_ble_eq_true rfl, Nat.le_of_ble_eq_true rfl⟩) ⟨fun a U g mk q => by obtain ⟨q0, q1, qP, qK, qD⟩ := q; exact ⟨q0, q1, qP, va_K.moved (u := U) (U := U.calling g mk a) (Vm.Alike.refl U.vm) qK, qD⟩, va_recv hKc hPc (ci := 7) (q0 := 0) rfl rfl, fun U hU hW => ⟨rfl, by rw [hU], by rw [hU]; exact hPc, va_K.moved hW.alike hKc, hDc.weaken (fun _ _ _ _ => trivial)⟩⟩ rfl rfl hl.1 rfl (lv_room (Nat.le_of_ble_eq_true rfl)) dX1_writeByte_22 ⟨by decide, by decide⟩) hS (fun q _ h => hFc q h) hFc (fun u34 t H1 locs ht hvm hw hB hz1 hk1 hS => ?_)
    obtain ⟨u34_0, u34_1, u34_2, u34_3⟩ := u34
    have hw : iv u34_0 0 255 ∧ iv u34_1 0 255 ∧ iv u34_2 0 255 ∧ iv u34_3 0 255 ∧ True := hw
    obtain ⟨iu34_0, iu34_1, iu34_2, iu34_3, -⟩ := hw
    obtain ⟨hP1, hK1, hD1⟩ := hB
    rw [ht] at hP1
    have hK1 := va_K.moved hvm.symm hK1
    obtain ⟨hP, hD⟩ := va_join (wr := [(h0, .inr (1, [.ref h1, .ref h2, .ref h3, .ref h4])), (h1, .inl (y0, 32768, .inl (fun _ => 0))), (h4, .inr (9, [.ref h5, .ref h6, .int 0, .int 0, .int 0, .int 0])), (h6, .inl (y1, 3, .inl (fun _ => 0))), (h5, .inl (y2, 3, .inl (fun _ => 0))), (h3, .inr (5, [.int 304, .int 0, .int 0, .int 0, .int 0, .int 0]))]) (w1 := [(h2, .inr (7, [.int 0, .int u34_0, .int u34_1, .int u34_2, .int u34_3]))]) hP hD [6] [0, 1, 2, 3, 4, 5] rfl rfl (by decide) (by decide) hk1 hFc hP1 hD1
    have hK := (hK.sub (tys' := [(y0, .int), (y1, .int), (y2, .int)]) [0, 1, 2] rfl).app hK1
    generalize H1 = H at hP hS ⊢
    have hP : va_P (dC, dI) vwCl [(h0, .inr (1, [.ref h1, .ref h2, .ref h3, .ref h4])), (h1, .inl (y0, 32768, .inl (fun _ => 0))), (h4, .inr (9, [.ref h5, .ref h6, .int 0, .int 0, .int 0, .int 0])), (h6, .inl (y1, 3, .inl (fun _ => 0))), (h5, .inl (y2, 3, .inl (fun _ => 0))), (h3, .inr (5, [.int 304, .int 0, .int 0, .int 0, .int 0, .int 0])), (h2, .inr (7, [.int 0, .int u34_0, .int u34_1, .int u34_2, .int u34_3]))] H := hP
    have hD : va_D A [(h0, .inr (1, [.ref h1, .ref h2, .ref h3, .ref h4])), (h1, .inl (y0, 32768, .inl (fun _ => 0))), (h4, .inr (9, [.ref h5, .ref h6, .int 0, .int 0, .int 0, .int 0])), (h6, .inl (y1, 3, .inl (fun _ => 0))), (h5, .inl (y2, 3, .inl (fun _ => 0))), (h3, .inr (5, [.int 304, .int 0, .int 0, .int 0, .int 0, .int 0])), (h2, .inr (7, [.int 0, .int u34_0, .int u34_1, .int u34_2, .int u34_3]))] := hD
    have hK : va_K (dC, dI) vwCl [(y0, .int), (y1, .int), (y2, .int)] s := hK
    have hP9 := hP.sub (ws' := [(h0, .inr (1, [.ref h1, .ref h2, .ref h3, .ref h4])), (h1, .inl (y0, 32768, .inl (fun _ => 0))), (h4, .inr (9, [.ref h5, .ref h6, .int 0, .int 0, .int 0, .int 0])), (h6, .inl (y1, 3, .inl (fun _ => 0))), (h5, .inl (y2, 3, .inl (fun _ => 0))), (h3, .inr (5, [.int 304, .int 0, .int 0, .int 0, .int 0, .int 0])), (h2, .inr (7, [.int 0, .int u34_0, .int u34_1, .int u34_2, .int u34_3]))]) [0, 1, 2, 3, 4, 5, 6] rfl
    have hD9 := hD.sub (ws' := [(h0, .inr (1, [.ref h1, .ref h2, .ref h3, .ref h4])), (h1, .inl (y0, 32768, .inl (fun _ => 0))), (h4, .inr (9, [.ref h5, .ref h6, .int 0, .int 0, .int 0, .int 0])), (h6, .inl (y1, 3, .inl (fun _ => 0))), (h5, .inl (y2, 3, .inl (fun _ => 0))), (h3, .inr (5, [.int 304, .int 0, .int 0, .int 0, .int 0, .int 0])), (h2, .inr (7, [.int 0, .int u34_0, .int u34_1, .int u34_2, .int u34_3]))]) [0, 1, 2, 3, 4, 5, 6] (by decide) rfl
    have hK9 := hK.sub (tys' := [(y0, .int), (y1, .int), (y2, .int)]) [0, 1, 2] rfl
    exact W.vret hx hb hr (fun t ht hW => ⟨⟨((fun _ => 0), 0, 0, (fun _ => 0), (fun _ => 0), 304, 0, 0, 0, 0, u34_0, u34_1, u34_2, u34_3), rfl, ⟨iv_w (by decide : iv 0 0 0) (by decide) (by decide), (fun _ => (by decide : iv 0 0 17)), iv_w (by decide : iv 304 304 304) (by decide) (by decide), iv_w iu34_0 (by decide) (by decide), iv_w iu34_1 (by decide) (by decide), iv_w iu34_2 (by decide) (by decide), iv_w iu34_3 (by decide) (by decide), trivial⟩, by rw [ht]; exact hP9, va_K.moved hW.alike hK9, hD9⟩, hS.F ht⟩) hS.2.2 dX1_writeByte_25
