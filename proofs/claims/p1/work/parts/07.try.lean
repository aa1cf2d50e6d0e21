set_option maxHeartbeats 4000000 in
set_option maxRecDepth 100000 in
theorem cX9_vector_1 (l : Launch) (dC : Nat → ClassId) (dI : Nat → Nat → Nat) (h0 h1 h2 : Nat) (y0 : ClassId) (sz : Nat) : Met l yX9_vector (Cond.code yX9_vector cX9_vector 1 (some .int) :: lw_G) ({ frames := 0, cells := 0, slots := 0, locals := 0 }) (va_Pc [.ref h0] (fun U => U.heap.size = sz ∧ va_P (dC, dI) vwCl [(h0, .inr (9, [.ref h1, .ref h2, .int 0, .int 0, .int 0, .int 0])), (h1, .inl (y0, 3, .inl (fun _ => 0)))] U.heap ∧ va_K (dC, dI) vwCl [(y0, .int)] U ∧ va_D (fun _ => True) [(h0, .inr (9, [.ref h1, .ref h2, .int 0, .int 0, .int 0, .int 0])), (h1, .inl (y0, 3, .inl (fun _ => 0)))])) (va_Qi (fun (r : Int32) (u : Unit) => r = 0 ∧ True) (fun (u : Unit) (t : State) => va_P (dC, dI) vwCl [(h0, .inr (9, [.ref h1, .ref h2, .int 0, .int 0, .int 0, .int 0])), (h1, .inl (y0, 3, .inl (fun _ => 0)))] t.heap ∧ va_K (dC, dI) vwCl [(y0, .int)] t ∧ va_D (va_A [(h0, .inr (9, [.ref h1, .ref h2, .int 0, .int 0, .int 0, .int 0])), (h1, .inl (y0, 3, .inl (fun _ => 0)))] sz) [(h0, .inr (9, [.ref h1, .ref h2, .int 0, .int 0, .int 0, .int 0])), (h1, .inl (y0, 3, .inl (fun _ => 0)))]) (va_A [(h0, .inr (9, [.ref h1, .ref h2, .int 0, .int 0, .int 0, .int 0])), (h1, .inl (y0, 3, .inl (fun _ => 0)))] sz)) 0 0 (va_A [(h0, .inr (9, [.ref h1, .ref h2, .int 0, .int 0, .int 0, .int 0])), (h1, .inl (y0, 3, .inl (fun _ => 0)))] sz) := by
  refine Met.ofW (cc := cX9_vector) (maxL := 1) (ret := (some .int)) (by decide) rfl ?_
  intro p e s m args below meth c s₁ B hml hv
  obtain ⟨rfl, hsz, hP, hK, hD0⟩ := hv
  have hx := B.exec
  have hb := B.bytes
  have hr := B.returns
  have hts0 := atoms_spec (ws := Cond.code yX9_vector cX9_vector 1 (some .int) :: lw_G) B.pre
  have hG : ∀ w ∈ lw_G, w.before _ s = true := fun w h => hts0 w (List.mem_cons_of_mem _ h)
  have hown : s.vm.findClass RX9 = some m.cls := findClass_of_methodNamed B.named
  have hlocks := B.notSynchronized
  subst hsz
  have hD := hD0.self (sz := s.heap.size)
  generalize hAe : va_A [(h0, .inr (9, [.ref h1, .ref h2, .int 0, .int 0, .int 0, .int 0])), (h1, .inl (y0, 3, .inl (fun _ => 0)))] s.heap.size = A at hD ⊢
  have hA : ∀ q : Nat, s.heap.size ≤ q → A q := fun q h => by rw [← hAe]; exact Or.inr h
  have hS : va_S A s.heap s.heap [] := va_S.rf
  have hP : va_P (dC, dI) vwCl [(h0, .inr (9, [.ref h1, .ref h2, .int 0, .int 0, .int 0, .int 0])), (h1, .inl (y0, 3, .inl (fun _ => 0)))] s.heap := hP
  have hl := lv_entry ([.ref h0]) (n := 1) (Nat.le_of_ble_eq_true rfl)
  rw [lg_entry_eq]
  generalize (lg_sl ([.ref h0]) ++ List.replicate (1 - (lg_sl ([.ref h0])).length) Slot.unset).toArray = ls at hl ⊢
  have hl : lv_has ls 1 [(0, .ref h0)] := hl
  refine lv_aload_n hx hb dX9_vector_0 rfl (lv_at hl 0 rfl) ?_
  refine va_get (D := (dC, dI)) (ci := 9) (v := .ref h1) (C := RX9) (T := TX9) (N := 6) hx hb hG inGX9 hown hK hP 0 rfl rfl 0 (by decide) (hG _ wd_95) (fun _ h9 => h9) rfl dX9_vector_1 ?_
  refine lv_iconst (v := 1) hx hb dX9_vector_4 (by decide) ?_
  refine va_iald hx hb hK hP 1 0 rfl rfl (iv_in (by decide : iv 1 1 1) (by decide) (by decide) : vp_in 1 3) dX9_vector_5 ?_
  refine lv_val (y := 0) rfl ?_
  refine lv_bipush (v := 17) hx hb dX9_vector_6 (by decide) ?_
  refine lv_icmp_ne (tgt := 13) hx hb dX9_vector_8 (by decide) (fun _ => ?_) (fun c => absurd c (by decide))
  refine lv_aload_n hx hb dX9_vector_13 rfl (lv_at hl 0 rfl) ?_
  refine va_get (D := (dC, dI)) (ci := 9) (v := .ref h1) (C := RX9) (T := TX9) (N := 6) hx hb hG inGX9 hown hK hP 0 rfl rfl 0 (by decide) (hG _ wd_95) (fun _ h9 => h9) rfl dX9_vector_14 ?_
  refine lv_iconst (v := 2) hx hb dX9_vector_17 (by decide) ?_
  refine va_iald hx hb hK hP 1 0 rfl rfl (iv_in (by decide : iv 2 2 2) (by decide) (by decide) : vp_in 2 3) dX9_vector_18 ?_
  refine lv_val (y := 0) rfl ?_
  refine lv_bipush (v := 17) hx hb dX9_vector_19 (by decide) ?_
  refine lv_icmp_ne (tgt := 26) hx hb dX9_vector_21 (by decide) (fun _ => ?_) (fun c => absurd c (by decide))
  refine lv_aload_n hx hb dX9_vector_26 rfl (lv_at hl 0 rfl) ?_
  refine va_get (D := (dC, dI)) (ci := 9) (v := .int 0) (C := RX9) (T := TX9) (N := 6) hx hb hG inGX9 hown hK hP 0 rfl rfl 2 (by decide) (hG _ wd_97) (fun _ h9 => h9) rfl dX9_vector_27 ?_
  refine lv_iconst (v := 3) hx hb dX9_vector_30 (by decide) ?_
  refine lv_iand hx hb dX9_vector_31 ?_
  refine lv_val (y := 0) (by decide +kernel) ?_
  refine lv_iconst (v := 3) hx hb dX9_vector_32 (by decide) ?_
  refine lv_icmp_ne (tgt := 41) hx hb dX9_vector_33 (by decide) (fun _ => ?_) (fun c => absurd c (by decide))
  refine lv_iconst (v := 0) hx hb dX9_vector_41 (by decide) ?_
  have hP9 := hP.sub (ws' := [(h0, .inr (9, [.ref h1, .ref h2, .int 0, .int 0, .int 0, .int 0])), (h1, .inl (y0, 3, .inl (fun _ => 0)))]) [0, 1] rfl
  have hD9 := hD.sub (ws' := [(h0, .inr (9, [.ref h1, .ref h2, .int 0, .int 0, .int 0, .int 0])), (h1, .inl (y0, 3, .inl (fun _ => 0)))]) [0, 1] (by decide) rfl
  have hK9 := hK.sub (tys' := [(y0, .int)]) [0] rfl
  exact W.iret (v := 0) hx hb hr (fun t ht hW => ⟨⟨0, (), rfl, ⟨rfl, trivial⟩, by rw [ht]; exact hP9, va_K.moved hW.alike hK9, hD9⟩, hS.F ht⟩) hS.2.2 dX9_vector_42
set_option maxHeartbeats 4000000 in
set_option maxRecDepth 100000 in
theorem cX7_value_1 (l : Launch) (dC : Nat → ClassId) (dI : Nat → Nat → Nat) (h0 : Nat) (sz : Nat) (x0 : Int32) : Met l yX7_value (Cond.code yX7_value cX7_value 2 (some .int) :: lw_G) ({ frames := 0, cells := 0, slots := 0, locals := 0 }) (va_Pc [.ref h0, .int x0] (fun U => U.heap.size = sz ∧ va_P (dC, dI) vwCl [(h0, .inr (7, [.int 0, .int 0, .int 0, .int 0, .int 0]))] U.heap ∧ va_K (dC, dI) vwCl [] U ∧ va_D (fun _ => True) [(h0, .inr (7, [.int 0, .int 0, .int 0, .int 0, .int 0]))])) (va_Qi (fun (r : Int32) (u : Unit) => r = 0 ∧ True) (fun (u : Unit) (t : State) => va_P (dC, dI) vwCl [(h0, .inr (7, [.int 0, .int 0, .int 0, .int 0, .int 0]))] t.heap ∧ va_K (dC, dI) vwCl [] t ∧ va_D (va_A [(h0, .inr (7, [.int 0, .int 0, .int 0, .int 0, .int 0]))] sz) [(h0, .inr (7, [.int 0, .int 0, .int 0, .int 0, .int 0]))]) (va_A [(h0, .inr (7, [.int 0, .int 0, .int 0, .int 0, .int 0]))] sz)) 0 0 (va_A [(h0, .inr (7, [.int 0, .int 0, .int 0, .int 0, .int 0]))] sz) := by
  refine Met.ofW (cc := cX7_value) (maxL := 2) (ret := (some .int)) (by decide) rfl ?_
  intro p e s m args below meth c s₁ B hml hv
  obtain ⟨rfl, hsz, hP, hK, hD0⟩ := hv
  have hx := B.exec
  have hb := B.bytes
  have hr := B.returns
  have hts0 := atoms_spec (ws := Cond.code yX7_value cX7_value 2 (some .int) :: lw_G) B.pre
  have hG : ∀ w ∈ lw_G, w.before _ s = true := fun w h => hts0 w (List.mem_cons_of_mem _ h)
  have hown : s.vm.findClass RX7 = some m.cls := findClass_of_methodNamed B.named
  have hlocks := B.notSynchronized
  subst hsz
  have hD := hD0.self (sz := s.heap.size)
  generalize hAe : va_A [(h0, .inr (7, [.int 0, .int 0, .int 0, .int 0, .int 0]))] s.heap.size = A at hD ⊢
  have hA : ∀ q : Nat, s.heap.size ≤ q → A q := fun q h => by rw [← hAe]; exact Or.inr h
  have hS : va_S A s.heap s.heap [] := va_S.rf
  have hP : va_P (dC, dI) vwCl [(h0, .inr (7, [.int 0, .int 0, .int 0, .int 0, .int 0]))] s.heap := hP
  have hl := lv_entry ([.ref h0, .int x0]) (n := 2) (Nat.le_of_ble_eq_true rfl)
  rw [lg_entry_eq]
  generalize (lg_sl ([.ref h0, .int x0]) ++ List.replicate (2 - (lg_sl ([.ref h0, .int x0])).length) Slot.unset).toArray = ls at hl ⊢
  have hl : lv_has ls 2 [(0, .ref h0), (1, .int x0)] := hl
  refine lv_iload_n hx hb dX7_value_0 rfl (lv_at hl 1 rfl) ?_
  by_cases s1 : x0.toInt < 32 ∨ 37 < x0.toInt
  · skip
    refine lv_tableOut (tgt := 65) hx hb dX7_value_1 s1 (by decide) ?_
    refine lv_iconst (v := 0) hx hb dX7_value_65 (by decide) ?_
    have hP9 := hP.sub (ws' := [(h0, .inr (7, [.int 0, .int 0, .int 0, .int 0, .int 0]))]) [0] rfl
    have hD9 := hD.sub (ws' := [(h0, .inr (7, [.int 0, .int 0, .int 0, .int 0, .int 0]))]) [0] (by decide) rfl
    have hK9 := hK.sub (tys' := []) [] rfl
    exact W.iret (v := 0) hx hb hr (fun t ht hW => ⟨⟨0, (), rfl, ⟨rfl, trivial⟩, by rw [ht]; exact hP9, va_K.moved hW.alike hK9, hD9⟩, hS.F ht⟩) hS.2.2 dX7_value_66
  · skip
    have s1x : x0 = 32 ∨ x0 = 33 ∨ x0 = 34 ∨ x0 = 35 ∨ x0 = 36 ∨ x0 = 37 := by
      have := (iv_any x0)
      have : x0.toInt = 32 ∨ x0.toInt = 33 ∨ x0.toInt = 34 ∨ x0.toInt = 35 ∨ x0.toInt = 36 ∨ x0.toInt = 37 := by omega
      rcases this with q | q | q | q | q | q
      · exact Or.inl (Int32.toInt_inj.mp q)
      · exact Or.inr (Or.inl (Int32.toInt_inj.mp q))
      · exact Or.inr (Or.inr (Or.inl (Int32.toInt_inj.mp q)))
      · exact Or.inr (Or.inr (Or.inr (Or.inl (Int32.toInt_inj.mp q))))
      · exact Or.inr (Or.inr (Or.inr (Or.inr (Or.inl (Int32.toInt_inj.mp q)))))
      · exact Or.inr (Or.inr (Or.inr (Or.inr (Or.inr ((Int32.toInt_inj.mp q))))))
    rcases s1x with rfl | rfl | rfl | rfl | rfl | rfl
    · skip
      refine lv_tableIn (off := 39) (tgt := 40) hx hb dX7_value_1 (by decide) (by decide) (by decide) (by decide) ?_
      refine lv_aload_n hx hb dX7_value_40 rfl (lv_at hl 0 rfl) ?_
      refine va_get (D := (dC, dI)) (ci := 7) (v := .int 0) (C := RX7) (T := TX7) (N := 5) hx hb hG inGX7 hown hK hP 0 rfl rfl 0 (by decide) (hG _ wd_47) (fun _ h9 => h9) rfl dX7_value_41 ?_
      have hP9 := hP.sub (ws' := [(h0, .inr (7, [.int 0, .int 0, .int 0, .int 0, .int 0]))]) [0] rfl
      have hD9 := hD.sub (ws' := [(h0, .inr (7, [.int 0, .int 0, .int 0, .int 0, .int 0]))]) [0] (by decide) rfl
      have hK9 := hK.sub (tys' := []) [] rfl
      exact W.iret (v := 0) hx hb hr (fun t ht hW => ⟨⟨0, (), rfl, ⟨rfl, trivial⟩, by rw [ht]; exact hP9, va_K.moved hW.alike hK9, hD9⟩, hS.F ht⟩) hS.2.2 dX7_value_44
    · skip
      refine lv_tableIn (off := 44) (tgt := 45) hx hb dX7_value_1 (by decide) (by decide) (by decide) (by decide) ?_
      refine lv_aload_n hx hb dX7_value_45 rfl (lv_at hl 0 rfl) ?_
      refine va_get (D := (dC, dI)) (ci := 7) (v := .int 0) (C := RX7) (T := TX7) (N := 5) hx hb hG inGX7 hown hK hP 0 rfl rfl 1 (by decide) (hG _ wd_48) (fun _ h9 => h9) rfl dX7_value_46 ?_
      have hP9 := hP.sub (ws' := [(h0, .inr (7, [.int 0, .int 0, .int 0, .int 0, .int 0]))]) [0] rfl
      have hD9 := hD.sub (ws' := [(h0, .inr (7, [.int 0, .int 0, .int 0, .int 0, .int 0]))]) [0] (by decide) rfl
      have hK9 := hK.sub (tys' := []) [] rfl
      exact W.iret (v := 0) hx hb hr (fun t ht hW => ⟨⟨0, (), rfl, ⟨rfl, trivial⟩, by rw [ht]; exact hP9, va_K.moved hW.alike hK9, hD9⟩, hS.F ht⟩) hS.2.2 dX7_value_49
    · skip
      refine lv_tableIn (off := 64) (tgt := 65) hx hb dX7_value_1 (by decide) (by decide) (by decide) (by decide) ?_
      refine lv_iconst (v := 0) hx hb dX7_value_65 (by decide) ?_
      have hP9 := hP.sub (ws' := [(h0, .inr (7, [.int 0, .int 0, .int 0, .int 0, .int 0]))]) [0] rfl
      have hD9 := hD.sub (ws' := [(h0, .inr (7, [.int 0, .int 0, .int 0, .int 0, .int 0]))]) [0] (by decide) rfl
      have hK9 := hK.sub (tys' := []) [] rfl
      exact W.iret (v := 0) hx hb hr (fun t ht hW => ⟨⟨0, (), rfl, ⟨rfl, trivial⟩, by rw [ht]; exact hP9, va_K.moved hW.alike hK9, hD9⟩, hS.F ht⟩) hS.2.2 dX7_value_66
    · skip
      refine lv_tableIn (off := 49) (tgt := 50) hx hb dX7_value_1 (by decide) (by decide) (by decide) (by decide) ?_
      refine lv_aload_n hx hb dX7_value_50 rfl (lv_at hl 0 rfl) ?_
      refine va_get (D := (dC, dI)) (ci := 7) (v := .int 0) (C := RX7) (T := TX7) (N := 5) hx hb hG inGX7 hown hK hP 0 rfl rfl 2 (by decide) (hG _ wd_49) (fun _ h9 => h9) rfl dX7_value_51 ?_
      have hP9 := hP.sub (ws' := [(h0, .inr (7, [.int 0, .int 0, .int 0, .int 0, .int 0]))]) [0] rfl
      have hD9 := hD.sub (ws' := [(h0, .inr (7, [.int 0, .int 0, .int 0, .int 0, .int 0]))]) [0] (by decide) rfl
      have hK9 := hK.sub (tys' := []) [] rfl
      exact W.iret (v := 0) hx hb hr (fun t ht hW => ⟨⟨0, (), rfl, ⟨rfl, trivial⟩, by rw [ht]; exact hP9, va_K.moved hW.alike hK9, hD9⟩, hS.F ht⟩) hS.2.2 dX7_value_54
    · skip
      refine lv_tableIn (off := 54) (tgt := 55) hx hb dX7_value_1 (by decide) (by decide) (by decide) (by decide) ?_
      refine lv_aload_n hx hb dX7_value_55 rfl (lv_at hl 0 rfl) ?_
      refine va_get (D := (dC, dI)) (ci := 7) (v := .int 0) (C := RX7) (T := TX7) (N := 5) hx hb hG inGX7 hown hK hP 0 rfl rfl 3 (by decide) (hG _ wd_50) (fun _ h9 => h9) rfl dX7_value_56 ?_
      have hP9 := hP.sub (ws' := [(h0, .inr (7, [.int 0, .int 0, .int 0, .int 0, .int 0]))]) [0] rfl
      have hD9 := hD.sub (ws' := [(h0, .inr (7, [.int 0, .int 0, .int 0, .int 0, .int 0]))]) [0] (by decide) rfl
      have hK9 := hK.sub (tys' := []) [] rfl
      exact W.iret (v := 0) hx hb hr (fun t ht hW => ⟨⟨0, (), rfl, ⟨rfl, trivial⟩, by rw [ht]; exact hP9, va_K.moved hW.alike hK9, hD9⟩, hS.F ht⟩) hS.2.2 dX7_value_59
    · skip
      refine lv_tableIn (off := 59) (tgt := 60) hx hb dX7_value_1 (by decide) (by decide) (by decide) (by decide) ?_
      refine lv_aload_n hx hb dX7_value_60 rfl (lv_at hl 0 rfl) ?_
      refine va_get (D := (dC, dI)) (ci := 7) (v := .int 0) (C := RX7) (T := TX7) (N := 5) hx hb hG inGX7 hown hK hP 0 rfl rfl 4 (by decide) (hG _ wd_51) (fun _ h9 => h9) rfl dX7_value_61 ?_
      have hP9 := hP.sub (ws' := [(h0, .inr (7, [.int 0, .int 0, .int 0, .int 0, .int 0]))]) [0] rfl
      have hD9 := hD.sub (ws' := [(h0, .inr (7, [.int 0, .int 0, .int 0, .int 0, .int 0]))]) [0] (by decide) rfl
      have hK9 := hK.sub (tys' := []) [] rfl
      exact W.iret (v := 0) hx hb hr (fun t ht hW => ⟨⟨0, (), rfl, ⟨rfl, trivial⟩, by rw [ht]; exact hP9, va_K.moved hW.alike hK9, hD9⟩, hS.F ht⟩) hS.2.2 dX7_value_64
set_option maxHeartbeats 4000000 in
set_option maxRecDepth 100000 in
theorem cX7_write_1 (l : Launch) (dC : Nat → ClassId) (dI : Nat → Nat → Nat) (h0 : Nat) (sz : Nat) (x0 x1 : Int32) : Met l yX7_write (Cond.code yX7_write cX7_write 3 none :: lw_G) ({ frames := 0, cells := 0, slots := 0, locals := 0 }) (va_Pc [.ref h0, .int x0, .int x1] (fun U => U.heap.size = sz ∧ va_P (dC, dI) vwCl [(h0, .inr (7, [.int 0, .int 0, .int 0, .int 0, .int 0]))] U.heap ∧ va_K (dC, dI) vwCl [] U ∧ va_D (fun _ => True) [(h0, .inr (7, [.int 0, .int 0, .int 0, .int 0, .int 0]))])) (va_Qv (fun (u : Int32 × Int32 × Int32 × Int32) => iv u.1 0 255 ∧ iv u.2.1 0 255 ∧ iv u.2.2.1 0 255 ∧ iv u.2.2.2 0 255 ∧ True) (fun (u : Int32 × Int32 × Int32 × Int32) (t : State) => va_P (dC, dI) vwCl [(h0, .inr (7, [.int 0, .int u.1, .int u.2.1, .int u.2.2.1, .int u.2.2.2]))] t.heap ∧ va_K (dC, dI) vwCl [] t ∧ va_D (va_A [(h0, .inr (7, [.int 0, .int 0, .int 0, .int 0, .int 0]))] sz) [(h0, .inr (7, [.int 0, .int u.1, .int u.2.1, .int u.2.2.1, .int u.2.2.2]))]) (va_A [(h0, .inr (7, [.int 0, .int 0, .int 0, .int 0, .int 0]))] sz)) 0 0 (va_A [(h0, .inr (7, [.int 0, .int 0, .int 0, .int 0, .int 0]))] sz) := by
  refine Met.ofW (cc := cX7_write) (maxL := 3) (ret := none) (by decide) rfl ?_
  intro p e s m args below meth c s₁ B hml hv
  obtain ⟨rfl, hsz, hP, hK, hD0⟩ := hv
  have hx := B.exec
  have hb := B.bytes
  have hr := B.returns
  have hts0 := atoms_spec (ws := Cond.code yX7_write cX7_write 3 none :: lw_G) B.pre
  have hG : ∀ w ∈ lw_G, w.before _ s = true := fun w h => hts0 w (List.mem_cons_of_mem _ h)
  have hown : s.vm.findClass RX7 = some m.cls := findClass_of_methodNamed B.named
  have hlocks := B.notSynchronized
  subst hsz
  have hD := hD0.self (sz := s.heap.size)
  generalize hAe : va_A [(h0, .inr (7, [.int 0, .int 0, .int 0, .int 0, .int 0]))] s.heap.size = A at hD ⊢
  have hA : ∀ q : Nat, s.heap.size ≤ q → A q := fun q h => by rw [← hAe]; exact Or.inr h
  have hS : va_S A s.heap s.heap [] := va_S.rf
  have hP : va_P (dC, dI) vwCl [(h0, .inr (7, [.int 0, .int 0, .int 0, .int 0, .int 0]))] s.heap := hP
  have hl := lv_entry ([.ref h0, .int x0, .int x1]) (n := 3) (Nat.le_of_ble_eq_true rfl)
  rw [lg_entry_eq]
  generalize (lg_sl ([.ref h0, .int x0, .int x1]) ++ List.replicate (3 - (lg_sl ([.ref h0, .int x0, .int x1])).length) Slot.unset).toArray = ls at hl ⊢
  have hl : lv_has ls 3 [(0, .ref h0), (1, .int x0), (2, .int x1)] := hl
  refine lv_iload_n hx hb dX7_write_0 rfl (lv_at hl 1 rfl) ?_
  by_cases s1 : x0.toInt < 33 ∨ 37 < x0.toInt
  · skip
    refine lv_tableOut (tgt := 84) hx hb dX7_write_1 s1 (by decide) ?_
    have hP9 := hP.sub (ws' := [(h0, .inr (7, [.int 0, .int 0, .int 0, .int 0, .int 0]))]) [0] rfl
    have hD9 := hD.sub (ws' := [(h0, .inr (7, [.int 0, .int 0, .int 0, .int 0, .int 0]))]) [0] (by decide) rfl
    have hK9 := hK.sub (tys' := []) [] rfl
    exact W.vret hx hb hr (fun t ht hW => ⟨⟨(0, 0, 0, 0), rfl, ⟨iv_w (by decide : iv 0 0 0) (by decide) (by decide), iv_w (by decide : iv 0 0 0) (by decide) (by decide), iv_w (by decide : iv 0 0 0) (by decide) (by decide), iv_w (by decide : iv 0 0 0) (by decide) (by decide), trivial⟩, by rw [ht]; exact hP9, va_K.moved hW.alike hK9, hD9⟩, hS.F ht⟩) hS.2.2 dX7_write_84
  · skip
    have s1x : x0 = 33 ∨ x0 = 34 ∨ x0 = 35 ∨ x0 = 36 ∨ x0 = 37 := by
      have := (iv_any x0)
      have : x0.toInt = 33 ∨ x0.toInt = 34 ∨ x0.toInt = 35 ∨ x0.toInt = 36 ∨ x0.toInt = 37 := by omega
      rcases this with q | q | q | q | q
      · exact Or.inl (Int32.toInt_inj.mp q)
      · exact Or.inr (Or.inl (Int32.toInt_inj.mp q))
      · exact Or.inr (Or.inr (Or.inl (Int32.toInt_inj.mp q)))
      · exact Or.inr (Or.inr (Or.inr (Or.inl (Int32.toInt_inj.mp q))))
      · exact Or.inr (Or.inr (Or.inr (Or.inr ((Int32.toInt_inj.mp q)))))
    rcases s1x with rfl | rfl | rfl | rfl | rfl
    · skip
      refine lv_tableIn (off := 35) (tgt := 36) hx hb dX7_write_1 (by decide) (by decide) (by decide) (by decide) ?_
      refine lv_aload_n hx hb dX7_write_36 rfl (lv_at hl 0 rfl) ?_
      refine lv_iload_n hx hb dX7_write_37 rfl (lv_at hl 2 rfl) ?_
      refine lv_sipush (v := 255) hx hb dX7_write_38 (by decide) ?_
      refine lv_iand hx hb dX7_write_41 ?_
      refine lv_topi (fun v2 ev2 => ?_)
      have iv2 : iv v2 0 255 := iv_eq ev2 (iv_and (x := x1) (iv_w (by decide : iv 255 255 255) (by decide) (by decide) : iv 255 0 255))
      refine va_put (D := (dC, dI)) (ci := 7) (v := .int v2) (ty := .int) (C := RX7) (T := TX7) (N := 5) hx hb hG inGX7 tyX7 tyX7_ok nmX7 hown hK hP hD hS 0 rfl rfl 1 (by decide) (hG _ wd_48) (fun _ h9 => h9) rfl (by decide +kernel) rfl rfl (Nat.le_of_ble_eq_true rfl) dX7_write_42 (fun H locs hP hD hS => ?_)
      have hP : va_P (dC, dI) vwCl [(h0, .inr (7, [.int 0, .int v2, .int 0, .int 0, .int 0]))] H := hP
      have hD : va_D A [(h0, .inr (7, [.int 0, .int v2, .int 0, .int 0, .int 0]))] := hD
      refine lv_goto (tgt := 84) hx hb dX7_write_45 (by decide) ?_
      have hP9 := hP.sub (ws' := [(h0, .inr (7, [.int 0, .int v2, .int 0, .int 0, .int 0]))]) [0] rfl
      have hD9 := hD.sub (ws' := [(h0, .inr (7, [.int 0, .int v2, .int 0, .int 0, .int 0]))]) [0] (by decide) rfl
      have hK9 := hK.sub (tys' := []) [] rfl
      exact W.vret hx hb hr (fun t ht hW => ⟨⟨(v2, 0, 0, 0), rfl, ⟨iv_w iv2 (by decide) (by decide), iv_w (by decide : iv 0 0 0) (by decide) (by decide), iv_w (by decide : iv 0 0 0) (by decide) (by decide), iv_w (by decide : iv 0 0 0) (by decide) (by decide), trivial⟩, by rw [ht]; exact hP9, va_K.moved hW.alike hK9, hD9⟩, hS.F ht⟩) hS.2.2 dX7_write_84
    · skip
      refine lv_tableIn (off := 83) (tgt := 84) hx hb dX7_write_1 (by decide) (by decide) (by decide) (by decide) ?_
      have hP9 := hP.sub (ws' := [(h0, .inr (7, [.int 0, .int 0, .int 0, .int 0, .int 0]))]) [0] rfl
      have hD9 := hD.sub (ws' := [(h0, .inr (7, [.int 0, .int 0, .int 0, .int 0, .int 0]))]) [0] (by decide) rfl
      have hK9 := hK.sub (tys' := []) [] rfl
      exact W.vret hx hb hr (fun t ht hW => ⟨⟨(0, 0, 0, 0), rfl, ⟨iv_w (by decide : iv 0 0 0) (by decide) (by decide), iv_w (by decide : iv 0 0 0) (by decide) (by decide), iv_w (by decide : iv 0 0 0) (by decide) (by decide), iv_w (by decide : iv 0 0 0) (by decide) (by decide), trivial⟩, by rw [ht]; exact hP9, va_K.moved hW.alike hK9, hD9⟩, hS.F ht⟩) hS.2.2 dX7_write_84
    · skip
      refine lv_tableIn (off := 47) (tgt := 48) hx hb dX7_write_1 (by decide) (by decide) (by decide) (by decide) ?_
      refine lv_aload_n hx hb dX7_write_48 rfl (lv_at hl 0 rfl) ?_
      refine lv_iload_n hx hb dX7_write_49 rfl (lv_at hl 2 rfl) ?_
      refine lv_sipush (v := 255) hx hb dX7_write_50 (by decide) ?_
      refine lv_iand hx hb dX7_write_53 ?_
      refine lv_topi (fun v3 ev3 => ?_)
      have iv3 : iv v3 0 255 := iv_eq ev3 (iv_and (x := x1) (iv_w (by decide : iv 255 255 255) (by decide) (by decide) : iv 255 0 255))
      refine va_put (D := (dC, dI)) (ci := 7) (v := .int v3) (ty := .int) (C := RX7) (T := TX7) (N := 5) hx hb hG inGX7 tyX7 tyX7_ok nmX7 hown hK hP hD hS 0 rfl rfl 2 (by decide) (hG _ wd_49) (fun _ h9 => h9) rfl (by decide +kernel) rfl rfl (Nat.le_of_ble_eq_true rfl) dX7_write_54 (fun H locs hP hD hS => ?_)
      have hP : va_P (dC, dI) vwCl [(h0, .inr (7, [.int 0, .int 0, .int v3, .int 0, .int 0]))] H := hP
      have hD : va_D A [(h0, .inr (7, [.int 0, .int 0, .int v3, .int 0, .int 0]))] := hD
      refine lv_goto (tgt := 84) hx hb dX7_write_57 (by decide) ?_
      have hP9 := hP.sub (ws' := [(h0, .inr (7, [.int 0, .int 0, .int v3, .int 0, .int 0]))]) [0] rfl
      have hD9 := hD.sub (ws' := [(h0, .inr (7, [.int 0, .int 0, .int v3, .int 0, .int 0]))]) [0] (by decide) rfl
      have hK9 := hK.sub (tys' := []) [] rfl
      exact W.vret hx hb hr (fun t ht hW => ⟨⟨(0, v3, 0, 0), rfl, ⟨iv_w (by decide : iv 0 0 0) (by decide) (by decide), iv_w iv3 (by decide) (by decide), iv_w (by decide : iv 0 0 0) (by decide) (by decide), iv_w (by decide : iv 0 0 0) (by decide) (by decide), trivial⟩, by rw [ht]; exact hP9, va_K.moved hW.alike hK9, hD9⟩, hS.F ht⟩) hS.2.2 dX7_write_84
    · skip
      refine lv_tableIn (off := 59) (tgt := 60) hx hb dX7_write_1 (by decide) (by decide) (by decide) (by decide) ?_
      refine lv_aload_n hx hb dX7_write_60 rfl (lv_at hl 0 rfl) ?_
      refine lv_iload_n hx hb dX7_write_61 rfl (lv_at hl 2 rfl) ?_
      refine lv_sipush (v := 255) hx hb dX7_write_62 (by decide) ?_
      refine lv_iand hx hb dX7_write_65 ?_
      refine lv_topi (fun v4 ev4 => ?_)
      have iv4 : iv v4 0 255 := iv_eq ev4 (iv_and (x := x1) (iv_w (by decide : iv 255 255 255) (by decide) (by decide) : iv 255 0 255))
      refine va_put (D := (dC, dI)) (ci := 7) (v := .int v4) (ty := .int) (C := RX7) (T := TX7) (N := 5) hx hb hG inGX7 tyX7 tyX7_ok nmX7 hown hK hP hD hS 0 rfl rfl 3 (by decide) (hG _ wd_50) (fun _ h9 => h9) rfl (by decide +kernel) rfl rfl (Nat.le_of_ble_eq_true rfl) dX7_write_66 (fun H locs hP hD hS => ?_)
      have hP : va_P (dC, dI) vwCl [(h0, .inr (7, [.int 0, .int 0, .int 0, .int v4, .int 0]))] H := hP
      have hD : va_D A [(h0, .inr (7, [.int 0, .int 0, .int 0, .int v4, .int 0]))] := hD
      refine lv_goto (tgt := 84) hx hb dX7_write_69 (by decide) ?_
      have hP9 := hP.sub (ws' := [(h0, .inr (7, [.int 0, .int 0, .int 0, .int v4, .int 0]))]) [0] rfl
      have hD9 := hD.sub (ws' := [(h0, .inr (7, [.int 0, .int 0, .int 0, .int v4, .int 0]))]) [0] (by decide) rfl
      have hK9 := hK.sub (tys' := []) [] rfl
      exact W.vret hx hb hr (fun t ht hW => ⟨⟨(0, 0, v4, 0), rfl, ⟨iv_w (by decide : iv 0 0 0) (by decide) (by decide), iv_w (by decide : iv 0 0 0) (by decide) (by decide), iv_w iv4 (by decide) (by decide), iv_w (by decide : iv 0 0 0) (by decide) (by decide), trivial⟩, by rw [ht]; exact hP9, va_K.moved hW.alike hK9, hD9⟩, hS.F ht⟩) hS.2.2 dX7_write_84
    · skip
      refine lv_tableIn (off := 71) (tgt := 72) hx hb dX7_write_1 (by decide) (by decide) (by decide) (by decide) ?_
      refine lv_aload_n hx hb dX7_write_72 rfl (lv_at hl 0 rfl) ?_
      refine lv_iload_n hx hb dX7_write_73 rfl (lv_at hl 2 rfl) ?_
      refine lv_sipush (v := 255) hx hb dX7_write_74 (by decide) ?_
      refine lv_iand hx hb dX7_write_77 ?_
      refine lv_topi (fun v5 ev5 => ?_)
      have iv5 : iv v5 0 255 := iv_eq ev5 (iv_and (x := x1) (iv_w (by decide : iv 255 255 255) (by decide) (by decide) : iv 255 0 255))
      refine va_put (D := (dC, dI)) (ci := 7) (v := .int v5) (ty := .int) (C := RX7) (T := TX7) (N := 5) hx hb hG inGX7 tyX7 tyX7_ok nmX7 hown hK hP hD hS 0 rfl rfl 4 (by decide) (hG _ wd_51) (fun _ h9 => h9) rfl (by decide +kernel) rfl rfl (Nat.le_of_ble_eq_true rfl) dX7_write_78 (fun H locs hP hD hS => ?_)
      have hP : va_P (dC, dI) vwCl [(h0, .inr (7, [.int 0, .int 0, .int 0, .int 0, .int v5]))] H := hP
      have hD : va_D A [(h0, .inr (7, [.int 0, .int 0, .int 0, .int 0, .int v5]))] := hD
      refine lv_goto (tgt := 84) hx hb dX7_write_81 (by decide) ?_
      have hP9 := hP.sub (ws' := [(h0, .inr (7, [.int 0, .int 0, .int 0, .int 0, .int v5]))]) [0] rfl
      have hD9 := hD.sub (ws' := [(h0, .inr (7, [.int 0, .int 0, .int 0, .int 0, .int v5]))]) [0] (by decide) rfl
      have hK9 := hK.sub (tys' := []) [] rfl
      exact W.vret hx hb hr (fun t ht hW => ⟨⟨(0, 0, 0, v5), rfl, ⟨iv_w (by decide : iv 0 0 0) (by decide) (by decide), iv_w (by decide : iv 0 0 0) (by decide) (by decide), iv_w (by decide : iv 0 0 0) (by decide) (by decide), iv_w iv5 (by decide) (by decide), trivial⟩, by rw [ht]; exact hP9, va_K.moved hW.alike hK9, hD9⟩, hS.F ht⟩) hS.2.2 dX7_write_84
set_option maxHeartbeats 4000000 in
set_option maxRecDepth 100000 in
theorem cX9_takeVector_1 (l : Launch) (dC : Nat → ClassId) (dI : Nat → Nat → Nat) (h0 h1 h2 : Nat) (y0 : ClassId) (sz : Nat) : Met l yX9_takeVector (Cond.code yX9_takeVector cX9_takeVector 2 (some .int) :: lw_G) ({ frames := 1, cells := 0, slots := 0, locals := 20 }) (va_Pc [.ref h0] (fun U => U.heap.size = sz ∧ va_P (dC, dI) vwCl [(h0, .inr (9, [.ref h1, .ref h2, .int 0, .int 0, .int 0, .int 0])), (h1, .inl (y0, 3, .inl (fun _ => 0)))] U.heap ∧ va_K (dC, dI) vwCl [(y0, .int)] U ∧ va_D (fun _ => True) [(h0, .inr (9, [.ref h1, .ref h2, .int 0, .int 0, .int 0, .int 0])), (h1, .inl (y0, 3, .inl (fun _ => 0)))])) (va_Qi (fun (r : Int32) (u : Unit) => r = 0 ∧ True) (fun (u : Unit) (t : State) => va_P (dC, dI) vwCl [(h0, .inr (9, [.ref h1, .ref h2, .int 0, .int 0, .int 0, .int 0])), (h1, .inl (y0, 3, .inl (fun _ => 0)))] t.heap ∧ va_K (dC, dI) vwCl [(y0, .int)] t ∧ va_D (va_A [(h0, .inr (9, [.ref h1, .ref h2, .int 0, .int 0, .int 0, .int 0])), (h1, .inl (y0, 3, .inl (fun _ => 0)))] sz) [(h0, .inr (9, [.ref h1, .ref h2, .int 0, .int 0, .int 0, .int 0])), (h1, .inl (y0, 3, .inl (fun _ => 0)))]) (va_A [(h0, .inr (9, [.ref h1, .ref h2, .int 0, .int 0, .int 0, .int 0])), (h1, .inl (y0, 3, .inl (fun _ => 0)))] sz)) 0 0 (va_A [(h0, .inr (9, [.ref h1, .ref h2, .int 0, .int 0, .int 0, .int 0])), (h1, .inl (y0, 3, .inl (fun _ => 0)))] sz) := by
  refine Met.ofW (cc := cX9_takeVector) (maxL := 2) (ret := (some .int)) (by decide) rfl ?_
  intro p e s m args below meth c s₁ B hml hv
  obtain ⟨rfl, hsz, hP, hK, hD0⟩ := hv
  have hx := B.exec
  have hb := B.bytes
  have hr := B.returns
  have hts0 := atoms_spec (ws := Cond.code yX9_takeVector cX9_takeVector 2 (some .int) :: lw_G) B.pre
  have hG : ∀ w ∈ lw_G, w.before _ s = true := fun w h => hts0 w (List.mem_cons_of_mem _ h)
  have hown : s.vm.findClass RX9 = some m.cls := findClass_of_methodNamed B.named
  have hlocks := B.notSynchronized
  subst hsz
  have hD := hD0.self (sz := s.heap.size)
  generalize hAe : va_A [(h0, .inr (9, [.ref h1, .ref h2, .int 0, .int 0, .int 0, .int 0])), (h1, .inl (y0, 3, .inl (fun _ => 0)))] s.heap.size = A at hD ⊢
  have hA : ∀ q : Nat, s.heap.size ≤ q → A q := fun q h => by rw [← hAe]; exact Or.inr h
  have hS : va_S A s.heap s.heap [] := va_S.rf
  have hP : va_P (dC, dI) vwCl [(h0, .inr (9, [.ref h1, .ref h2, .int 0, .int 0, .int 0, .int 0])), (h1, .inl (y0, 3, .inl (fun _ => 0)))] s.heap := hP
  have hl := lv_entry ([.ref h0]) (n := 2) (Nat.le_of_ble_eq_true rfl)
  rw [lg_entry_eq]
  generalize (lg_sl ([.ref h0]) ++ List.replicate (2 - (lg_sl ([.ref h0])).length) Slot.unset).toArray = ls at hl ⊢
  have hl : lv_has ls 2 [(0, .ref h0)] := hl
  refine lv_aload_n hx hb dX9_takeVector_0 rfl (lv_at hl 0 rfl) ?_
  have hPc := hP.sub (ws' := [(h0, .inr (9, [.ref h1, .ref h2, .int 0, .int 0, .int 0, .int 0])), (h1, .inl (y0, 3, .inl (fun _ => 0)))]) [0, 1] rfl
  have hDc := hD.sub (ws' := [(h0, .inr (9, [.ref h1, .ref h2, .int 0, .int 0, .int 0, .int 0])), (h1, .inl (y0, 3, .inl (fun _ => 0)))]) [0, 1] (by decide) rfl
  have hKc := hK.sub (tys' := [(y0, .int)]) [0] rfl
  have hFc := va_free (wc := [(h0, .inr (9, [.ref h1, .ref h2, .int 0, .int 0, .int 0, .int 0])), (h1, .inl (y0, 3, .inl (fun _ => 0)))]) hD hS hA [0, 1] rfl
  refine va_calli (va_runV (As := []) (rest := []) ⟨hx, hb, hml, hown, hG⟩ (cX9_vector_1 l dC dI h0 h1 h2 y0 s.heap.size) (cwV 0 hG (gV wd_749 wd_729 wd_730 wd_5 wd_731) rfl rfl rfl (by decide +kernel) ⟨Nat.le_of_ble_eq_true rfl, Nat.le_of_ble_eq_true rfl⟩) ⟨fun a U g mk q => by obtain ⟨q0, q1, qP, qK, qD⟩ := q; exact ⟨q0, q1, qP, va_K.moved (u := U) (U := U.calling g mk a) (Vm.Alike.refl U.vm) qK, qD⟩, va_recv hKc hPc (ci := 9) (q0 := 0) rfl rfl, fun U hU hW => ⟨rfl, by rw [hU], by rw [hU]; exact hPc, va_K.moved hW.alike hKc, hDc.weaken (fun _ _ _ _ => trivial)⟩⟩ rfl rfl hl.1 rfl (lv_room (Nat.le_of_ble_eq_true rfl)) dX9_takeVector_1 ⟨by decide, by decide⟩) hS (fun q _ h => hFc q h) hFc (fun r1 u2 t H1 locs ht hvm hw hB hz1 hk1 hS => ?_)
  have hw : r1 = 0 ∧ True := hw
  obtain ⟨er1, -⟩ := hw
  obtain ⟨hP1, hK1, hD1⟩ := hB
  rw [ht] at hP1
  have hK1 := va_K.moved hvm.symm hK1
  obtain ⟨hP, hD⟩ := va_join (wr := []) (w1 := [(h0, .inr (9, [.ref h1, .ref h2, .int 0, .int 0, .int 0, .int 0])), (h1, .inl (y0, 3, .inl (fun _ => 0)))]) hP hD [0, 1] [] rfl rfl (by decide) (by decide) hk1 hFc hP1 hD1
  have hK := (hK.sub (tys' := []) [] rfl).app hK1
  generalize H1 = H at hP hS ⊢
  have hP : va_P (dC, dI) vwCl [(h0, .inr (9, [.ref h1, .ref h2, .int 0, .int 0, .int 0, .int 0])), (h1, .inl (y0, 3, .inl (fun _ => 0)))] H := hP
  have hD : va_D A [(h0, .inr (9, [.ref h1, .ref h2, .int 0, .int 0, .int 0, .int 0])), (h1, .inl (y0, 3, .inl (fun _ => 0)))] := hD
  have hK : va_K (dC, dI) vwCl [(y0, .int)] s := hK
  subst er1
  refine lv_istore_n (lv' := [(1, .int 0), (0, .ref h0)]) hx hb dX9_takeVector_4 rfl hl (by decide) rfl (fun ls hl => ?_)
  refine lv_iload_n hx hb dX9_takeVector_5 rfl (lv_at hl 0 rfl) ?_
  refine lv_iconst (v := 2) hx hb dX9_takeVector_6 (by decide) ?_
  refine lv_icmp_ne (tgt := 24) hx hb dX9_takeVector_7 (by decide) (fun _ => ?_) (fun c => absurd c (by decide))
  refine lv_iload_n hx hb dX9_takeVector_24 rfl (lv_at hl 0 rfl) ?_
  refine lv_iconst (v := 4) hx hb dX9_takeVector_25 (by decide) ?_
  refine lv_icmp_ne (tgt := 43) hx hb dX9_takeVector_26 (by decide) (fun _ => ?_) (fun c => absurd c (by decide))
  refine lv_iload_n hx hb dX9_takeVector_43 rfl (lv_at hl 0 rfl) ?_
  refine lv_bipush (v := 10) hx hb dX9_takeVector_44 (by decide) ?_
  refine lv_icmp_ne (tgt := 60) hx hb dX9_takeVector_46 (by decide) (fun _ => ?_) (fun c => absurd c (by decide))
  refine lv_iload_n hx hb dX9_takeVector_60 rfl (lv_at hl 0 rfl) ?_
  have hP9 := hP.sub (ws' := [(h0, .inr (9, [.ref h1, .ref h2, .int 0, .int 0, .int 0, .int 0])), (h1, .inl (y0, 3, .inl (fun _ => 0)))]) [0, 1] rfl
  have hD9 := hD.sub (ws' := [(h0, .inr (9, [.ref h1, .ref h2, .int 0, .int 0, .int 0, .int 0])), (h1, .inl (y0, 3, .inl (fun _ => 0)))]) [0, 1] (by decide) rfl
  have hK9 := hK.sub (tys' := [(y0, .int)]) [0] rfl
  exact W.iret (v := 0) hx hb hr (fun t ht hW => ⟨⟨0, (), rfl, ⟨rfl, trivial⟩, by rw [ht]; exact hP9, va_K.moved hW.alike hK9, hD9⟩, hS.F ht⟩) hS.2.2 dX9_takeVector_61
set_option maxHeartbeats 4000000 in
set_option maxRecDepth 100000 in
theorem cX9_word_1 (l : Launch) (dC : Nat → ClassId) (dI : Nat → Nat → Nat) (h0 h1 h2 : Nat) (y0 y1 : ClassId) (sz : Nat) (x0 : Int32) : Met l yX9_word (Cond.code yX9_word cX9_word 2 (some .int) :: lw_G) ({ frames := 0, cells := 0, slots := 0, locals := 0 }) (va_Pc [.ref h0, .int x0] (fun U => U.heap.size = sz ∧ va_P (dC, dI) vwCl [(h0, .inr (9, [.ref h1, .ref h2, .int 0, .int 0, .int 0, .int 0])), (h2, .inl (y0, 3, .inl (fun _ => 0))), (h1, .inl (y1, 3, .inl (fun _ => 0)))] U.heap ∧ va_K (dC, dI) vwCl [(y0, .int), (y1, .int)] U ∧ va_D (fun _ => True) [(h0, .inr (9, [.ref h1, .ref h2, .int 0, .int 0, .int 0, .int 0])), (h2, .inl (y0, 3, .inl (fun _ => 0))), (h1, .inl (y1, 3, .inl (fun _ => 0)))])) (va_Qi (fun (r : Int32) (u : Unit) => r = 0 ∧ True) (fun (u : Unit) (t : State) => va_P (dC, dI) vwCl [(h0, .inr (9, [.ref h1, .ref h2, .int 0, .int 0, .int 0, .int 0])), (h2, .inl (y0, 3, .inl (fun _ => 0))), (h1, .inl (y1, 3, .inl (fun _ => 0)))] t.heap ∧ va_K (dC, dI) vwCl [(y0, .int), (y1, .int)] t ∧ va_D (va_A [(h0, .inr (9, [.ref h1, .ref h2, .int 0, .int 0, .int 0, .int 0])), (h2, .inl (y0, 3, .inl (fun _ => 0))), (h1, .inl (y1, 3, .inl (fun _ => 0)))] sz) [(h0, .inr (9, [.ref h1, .ref h2, .int 0, .int 0, .int 0, .int 0])), (h2, .inl (y0, 3, .inl (fun _ => 0))), (h1, .inl (y1, 3, .inl (fun _ => 0)))]) (va_A [(h0, .inr (9, [.ref h1, .ref h2, .int 0, .int 0, .int 0, .int 0])), (h2, .inl (y0, 3, .inl (fun _ => 0))), (h1, .inl (y1, 3, .inl (fun _ => 0)))] sz)) 0 0 (va_A [(h0, .inr (9, [.ref h1, .ref h2, .int 0, .int 0, .int 0, .int 0])), (h2, .inl (y0, 3, .inl (fun _ => 0))), (h1, .inl (y1, 3, .inl (fun _ => 0)))] sz) := by
  refine Met.ofW (cc := cX9_word) (maxL := 2) (ret := (some .int)) (by decide) rfl ?_
  intro p e s m args below meth c s₁ B hml hv
  obtain ⟨rfl, hsz, hP, hK, hD0⟩ := hv
  have hx := B.exec
  have hb := B.bytes
  have hr := B.returns
  have hts0 := atoms_spec (ws := Cond.code yX9_word cX9_word 2 (some .int) :: lw_G) B.pre
  have hG : ∀ w ∈ lw_G, w.before _ s = true := fun w h => hts0 w (List.mem_cons_of_mem _ h)
  have hown : s.vm.findClass RX9 = some m.cls := findClass_of_methodNamed B.named
  have hlocks := B.notSynchronized
  subst hsz
  have hD := hD0.self (sz := s.heap.size)
  generalize hAe : va_A [(h0, .inr (9, [.ref h1, .ref h2, .int 0, .int 0, .int 0, .int 0])), (h2, .inl (y0, 3, .inl (fun _ => 0))), (h1, .inl (y1, 3, .inl (fun _ => 0)))] s.heap.size = A at hD ⊢
  have hA : ∀ q : Nat, s.heap.size ≤ q → A q := fun q h => by rw [← hAe]; exact Or.inr h
  have hS : va_S A s.heap s.heap [] := va_S.rf
  have hP : va_P (dC, dI) vwCl [(h0, .inr (9, [.ref h1, .ref h2, .int 0, .int 0, .int 0, .int 0])), (h2, .inl (y0, 3, .inl (fun _ => 0))), (h1, .inl (y1, 3, .inl (fun _ => 0)))] s.heap := hP
  have hl := lv_entry ([.ref h0, .int x0]) (n := 2) (Nat.le_of_ble_eq_true rfl)
  rw [lg_entry_eq]
  generalize (lg_sl ([.ref h0, .int x0]) ++ List.replicate (2 - (lg_sl ([.ref h0, .int x0])).length) Slot.unset).toArray = ls at hl ⊢
  have hl : lv_has ls 2 [(0, .ref h0), (1, .int x0)] := hl
  refine lv_iload_n hx hb dX9_word_0 rfl (lv_at hl 1 rfl) ?_
  refine lv_sipush (v := 352) hx hb dX9_word_1 (by decide) ?_
  refine lv_icmp_ne (tgt := 12) hx hb dX9_word_4 (by decide) (fun c1 => ?_) (fun c1 => ?_)
  · skip
    refine lv_iload_n hx hb dX9_word_12 rfl (lv_at hl 1 rfl) ?_
    refine lv_sipush (v := 354) hx hb dX9_word_13 (by decide) ?_
    refine lv_icmp_lt (tgt := 39) hx hb dX9_word_16 (by decide) (fun c2 => ?_) (fun c2 => ?_)
    · skip
      have j3 : iv x0 (-2147483648) 353 := iv_ltL (iv_any x0) (by decide : iv 354 354 354) c2 (by decide)
      refine lv_iload_n hx hb dX9_word_39 rfl (lv_at hl 1 rfl) ?_
      refine lv_sipush (v := 368) hx hb dX9_word_40 (by decide) ?_
      refine lv_icmp_ne (tgt := 51) hx hb dX9_word_43 (by decide) (fun _ => ?_) (fun c => absurd c (iv_ne j3 (by decide : iv 368 368 368) (by decide)))
      refine lv_iload_n hx hb dX9_word_51 rfl (lv_at hl 1 rfl) ?_
      refine lv_sipush (v := 370) hx hb dX9_word_52 (by decide) ?_
      refine lv_icmp_lt (tgt := 78) hx hb dX9_word_55 (by decide) (fun _ => ?_) (fun c => absurd (iv_lt j3 (by decide : iv 370 370 370) (by decide)) c)
      refine lv_iconst (v := 0) hx hb dX9_word_78 (by decide) ?_
      have hP9 := hP.sub (ws' := [(h0, .inr (9, [.ref h1, .ref h2, .int 0, .int 0, .int 0, .int 0])), (h2, .inl (y0, 3, .inl (fun _ => 0))), (h1, .inl (y1, 3, .inl (fun _ => 0)))]) [0, 1, 2] rfl
      have hD9 := hD.sub (ws' := [(h0, .inr (9, [.ref h1, .ref h2, .int 0, .int 0, .int 0, .int 0])), (h2, .inl (y0, 3, .inl (fun _ => 0))), (h1, .inl (y1, 3, .inl (fun _ => 0)))]) [0, 1, 2] (by decide) rfl
      have hK9 := hK.sub (tys' := [(y0, .int), (y1, .int)]) [0, 1] rfl
      exact W.iret (v := 0) hx hb hr (fun t ht hW => ⟨⟨0, (), rfl, ⟨rfl, trivial⟩, by rw [ht]; exact hP9, va_K.moved hW.alike hK9, hD9⟩, hS.F ht⟩) hS.2.2 dX9_word_79
    · skip
      have j4 : iv x0 354 2147483647 := iv_nltL (iv_any x0) (by decide : iv 354 354 354) c2 (by decide)
      refine lv_iload_n hx hb dX9_word_19 rfl (lv_at hl 1 rfl) ?_
      refine lv_sipush (v := 358) hx hb dX9_word_20 (by decide) ?_
      refine lv_icmp_gt (tgt := 39) hx hb dX9_word_23 (by decide) (fun c5 => ?_) (fun c5 => ?_)
      · skip
        have j6 : iv x0 359 2147483647 := iv_ltR (by decide : iv 358 358 358) j4 c5 (by decide)
        refine lv_iload_n hx hb dX9_word_39 rfl (lv_at hl 1 rfl) ?_
        refine lv_sipush (v := 368) hx hb dX9_word_40 (by decide) ?_
        refine lv_icmp_ne (tgt := 51) hx hb dX9_word_43 (by decide) (fun c7 => ?_) (fun c7 => ?_)
        · skip
          refine lv_iload_n hx hb dX9_word_51 rfl (lv_at hl 1 rfl) ?_
          refine lv_sipush (v := 370) hx hb dX9_word_52 (by decide) ?_
          refine lv_icmp_lt (tgt := 78) hx hb dX9_word_55 (by decide) (fun c8 => ?_) (fun c8 => ?_)
          · skip
            have j9 : iv x0 359 369 := iv_ltL j6 (by decide : iv 370 370 370) c8 (by decide)
            refine lv_iconst (v := 0) hx hb dX9_word_78 (by decide) ?_
            have hP9 := hP.sub (ws' := [(h0, .inr (9, [.ref h1, .ref h2, .int 0, .int 0, .int 0, .int 0])), (h2, .inl (y0, 3, .inl (fun _ => 0))), (h1, .inl (y1, 3, .inl (fun _ => 0)))]) [0, 1, 2] rfl
            have hD9 := hD.sub (ws' := [(h0, .inr (9, [.ref h1, .ref h2, .int 0, .int 0, .int 0, .int 0])), (h2, .inl (y0, 3, .inl (fun _ => 0))), (h1, .inl (y1, 3, .inl (fun _ => 0)))]) [0, 1, 2] (by decide) rfl
            have hK9 := hK.sub (tys' := [(y0, .int), (y1, .int)]) [0, 1] rfl
            exact W.iret (v := 0) hx hb hr (fun t ht hW => ⟨⟨0, (), rfl, ⟨rfl, trivial⟩, by rw [ht]; exact hP9, va_K.moved hW.alike hK9, hD9⟩, hS.F ht⟩) hS.2.2 dX9_word_79
          · skip
            have j10 : iv x0 370 2147483647 := iv_nltL j6 (by decide : iv 370 370 370) c8 (by decide)
            refine lv_iload_n hx hb dX9_word_58 rfl (lv_at hl 1 rfl) ?_
            refine lv_sipush (v := 374) hx hb dX9_word_59 (by decide) ?_
            refine lv_icmp_gt (tgt := 78) hx hb dX9_word_62 (by decide) (fun c11 => ?_) (fun c11 => ?_)
            · skip
              have j12 : iv x0 375 2147483647 := iv_ltR (by decide : iv 374 374 374) j10 c11 (by decide)
              refine lv_iconst (v := 0) hx hb dX9_word_78 (by decide) ?_
              have hP9 := hP.sub (ws' := [(h0, .inr (9, [.ref h1, .ref h2, .int 0, .int 0, .int 0, .int 0])), (h2, .inl (y0, 3, .inl (fun _ => 0))), (h1, .inl (y1, 3, .inl (fun _ => 0)))]) [0, 1, 2] rfl
              have hD9 := hD.sub (ws' := [(h0, .inr (9, [.ref h1, .ref h2, .int 0, .int 0, .int 0, .int 0])), (h2, .inl (y0, 3, .inl (fun _ => 0))), (h1, .inl (y1, 3, .inl (fun _ => 0)))]) [0, 1, 2] (by decide) rfl
              have hK9 := hK.sub (tys' := [(y0, .int), (y1, .int)]) [0, 1] rfl
              exact W.iret (v := 0) hx hb hr (fun t ht hW => ⟨⟨0, (), rfl, ⟨rfl, trivial⟩, by rw [ht]; exact hP9, va_K.moved hW.alike hK9, hD9⟩, hS.F ht⟩) hS.2.2 dX9_word_79
            · skip
              have j13 : iv x0 370 374 := iv_nltR (by decide : iv 374 374 374) j10 c11 (by decide)
              refine lv_aload_n hx hb dX9_word_65 rfl (lv_at hl 0 rfl) ?_
              refine va_get (D := (dC, dI)) (ci := 9) (v := .ref h2) (C := RX9) (T := TX9) (N := 6) hx hb hG inGX9 hown hK hP 0 rfl rfl 1 (by decide) (hG _ wd_96) (fun _ h9 => h9) rfl dX9_word_66 ?_
              refine lv_iload_n hx hb dX9_word_69 rfl (lv_at hl 1 rfl) ?_
              refine lv_sipush (v := 370) hx hb dX9_word_70 (by decide) ?_
              refine lv_isub hx hb dX9_word_73 ?_
              refine lv_topi (fun v14 ev14 => ?_)
              have iv14 : iv v14 0 4 := iv_eq ev14 (iv_sub j13 (by decide : iv 370 370 370) (by decide) (by decide))
              refine lv_iconst (v := 1) hx hb dX9_word_74 (by decide) ?_
              refine lv_ishr hx hb dX9_word_75 ?_
              refine lv_topi (fun v15 ev15 => ?_)
              have iv15 : iv v15 0 2 := iv_eq ev15 (iv_shr 1 (by decide) iv14 (by decide) (by decide))
              refine va_iald hx hb hK hP 1 0 rfl rfl (iv_in iv15 (by decide) (by decide) : vp_in v15 3) dX9_word_76 ?_
              refine lv_val (y := 0) rfl ?_
              have hP9 := hP.sub (ws' := [(h0, .inr (9, [.ref h1, .ref h2, .int 0, .int 0, .int 0, .int 0])), (h2, .inl (y0, 3, .inl (fun _ => 0))), (h1, .inl (y1, 3, .inl (fun _ => 0)))]) [0, 1, 2] rfl
              have hD9 := hD.sub (ws' := [(h0, .inr (9, [.ref h1, .ref h2, .int 0, .int 0, .int 0, .int 0])), (h2, .inl (y0, 3, .inl (fun _ => 0))), (h1, .inl (y1, 3, .inl (fun _ => 0)))]) [0, 1, 2] (by decide) rfl
              have hK9 := hK.sub (tys' := [(y0, .int), (y1, .int)]) [0, 1] rfl
              exact W.iret (v := 0) hx hb hr (fun t ht hW => ⟨⟨0, (), rfl, ⟨rfl, trivial⟩, by rw [ht]; exact hP9, va_K.moved hW.alike hK9, hD9⟩, hS.F ht⟩) hS.2.2 dX9_word_77
        · skip
          subst c7
          refine lv_aload_n hx hb dX9_word_46 rfl (lv_at hl 0 rfl) ?_
          refine va_get (D := (dC, dI)) (ci := 9) (v := .int 0) (C := RX9) (T := TX9) (N := 6) hx hb hG inGX9 hown hK hP 0 rfl rfl 3 (by decide) (hG _ wd_98) (fun _ h9 => h9) rfl dX9_word_47 ?_
          have hP9 := hP.sub (ws' := [(h0, .inr (9, [.ref h1, .ref h2, .int 0, .int 0, .int 0, .int 0])), (h2, .inl (y0, 3, .inl (fun _ => 0))), (h1, .inl (y1, 3, .inl (fun _ => 0)))]) [0, 1, 2] rfl
          have hD9 := hD.sub (ws' := [(h0, .inr (9, [.ref h1, .ref h2, .int 0, .int 0, .int 0, .int 0])), (h2, .inl (y0, 3, .inl (fun _ => 0))), (h1, .inl (y1, 3, .inl (fun _ => 0)))]) [0, 1, 2] (by decide) rfl
          have hK9 := hK.sub (tys' := [(y0, .int), (y1, .int)]) [0, 1] rfl
          exact W.iret (v := 0) hx hb hr (fun t ht hW => ⟨⟨0, (), rfl, ⟨rfl, trivial⟩, by rw [ht]; exact hP9, va_K.moved hW.alike hK9, hD9⟩, hS.F ht⟩) hS.2.2 dX9_word_50
      · skip
        have j16 : iv x0 354 358 := iv_nltR (by decide : iv 358 358 358) j4 c5 (by decide)
        refine lv_aload_n hx hb dX9_word_26 rfl (lv_at hl 0 rfl) ?_
        refine va_get (D := (dC, dI)) (ci := 9) (v := .ref h1) (C := RX9) (T := TX9) (N := 6) hx hb hG inGX9 hown hK hP 0 rfl rfl 0 (by decide) (hG _ wd_95) (fun _ h9 => h9) rfl dX9_word_27 ?_
        refine lv_iload_n hx hb dX9_word_30 rfl (lv_at hl 1 rfl) ?_
        refine lv_sipush (v := 354) hx hb dX9_word_31 (by decide) ?_
        refine lv_isub hx hb dX9_word_34 ?_
        refine lv_topi (fun v17 ev17 => ?_)
        have iv17 : iv v17 0 4 := iv_eq ev17 (iv_sub j16 (by decide : iv 354 354 354) (by decide) (by decide))
        refine lv_iconst (v := 1) hx hb dX9_word_35 (by decide) ?_
        refine lv_ishr hx hb dX9_word_36 ?_
        refine lv_topi (fun v18 ev18 => ?_)
        have iv18 : iv v18 0 2 := iv_eq ev18 (iv_shr 1 (by decide) iv17 (by decide) (by decide))
        refine va_iald hx hb hK hP 2 1 rfl rfl (iv_in iv18 (by decide) (by decide) : vp_in v18 3) dX9_word_37 ?_
        refine lv_val (y := 0) rfl ?_
        have hP9 := hP.sub (ws' := [(h0, .inr (9, [.ref h1, .ref h2, .int 0, .int 0, .int 0, .int 0])), (h2, .inl (y0, 3, .inl (fun _ => 0))), (h1, .inl (y1, 3, .inl (fun _ => 0)))]) [0, 1, 2] rfl
        have hD9 := hD.sub (ws' := [(h0, .inr (9, [.ref h1, .ref h2, .int 0, .int 0, .int 0, .int 0])), (h2, .inl (y0, 3, .inl (fun _ => 0))), (h1, .inl (y1, 3, .inl (fun _ => 0)))]) [0, 1, 2] (by decide) rfl
        have hK9 := hK.sub (tys' := [(y0, .int), (y1, .int)]) [0, 1] rfl
        exact W.iret (v := 0) hx hb hr (fun t ht hW => ⟨⟨0, (), rfl, ⟨rfl, trivial⟩, by rw [ht]; exact hP9, va_K.moved hW.alike hK9, hD9⟩, hS.F ht⟩) hS.2.2 dX9_word_38
  · skip
    subst c1
    refine lv_aload_n hx hb dX9_word_7 rfl (lv_at hl 0 rfl) ?_
    refine va_get (D := (dC, dI)) (ci := 9) (v := .int 0) (C := RX9) (T := TX9) (N := 6) hx hb hG inGX9 hown hK hP 0 rfl rfl 2 (by decide) (hG _ wd_97) (fun _ h9 => h9) rfl dX9_word_8 ?_
    have hP9 := hP.sub (ws' := [(h0, .inr (9, [.ref h1, .ref h2, .int 0, .int 0, .int 0, .int 0])), (h2, .inl (y0, 3, .inl (fun _ => 0))), (h1, .inl (y1, 3, .inl (fun _ => 0)))]) [0, 1, 2] rfl
    have hD9 := hD.sub (ws' := [(h0, .inr (9, [.ref h1, .ref h2, .int 0, .int 0, .int 0, .int 0])), (h2, .inl (y0, 3, .inl (fun _ => 0))), (h1, .inl (y1, 3, .inl (fun _ => 0)))]) [0, 1, 2] (by decide) rfl
    have hK9 := hK.sub (tys' := [(y0, .int), (y1, .int)]) [0, 1] rfl
    exact W.iret (v := 0) hx hb hr (fun t ht hW => ⟨⟨0, (), rfl, ⟨rfl, trivial⟩, by rw [ht]; exact hP9, va_K.moved hW.alike hK9, hD9⟩, hS.F ht⟩) hS.2.2 dX9_word_11
set_option maxHeartbeats 4000000 in
set_option maxRecDepth 100000 in
theorem cX9_startAnew_1 (l : Launch) (dC : Nat → ClassId) (dI : Nat → Nat → Nat) (h0 h1 h2 : Nat) (sz : Nat) : Met l yX9_startAnew (Cond.code yX9_startAnew cX9_startAnew 1 none :: lw_G) ({ frames := 0, cells := 0, slots := 0, locals := 0 }) (va_Pc [.ref h0] (fun U => U.heap.size = sz ∧ va_P (dC, dI) vwCl [(h0, .inr (9, [.ref h1, .ref h2, .int 0, .int 0, .int 0, .int 0]))] U.heap ∧ va_K (dC, dI) vwCl [] U ∧ va_D (fun _ => True) [(h0, .inr (9, [.ref h1, .ref h2, .int 0, .int 0, .int 0, .int 0]))])) (va_Qv (fun (u : Unit) => True) (fun (u : Unit) (t : State) => va_P (dC, dI) vwCl [(h0, .inr (9, [.ref h1, .ref h2, .int 0, .int 0, .int 0, .int 0]))] t.heap ∧ va_K (dC, dI) vwCl [] t ∧ va_D (va_A [(h0, .inr (9, [.ref h1, .ref h2, .int 0, .int 0, .int 0, .int 0]))] sz) [(h0, .inr (9, [.ref h1, .ref h2, .int 0, .int 0, .int 0, .int 0]))]) (va_A [(h0, .inr (9, [.ref h1, .ref h2, .int 0, .int 0, .int 0, .int 0]))] sz)) 0 0 (va_A [(h0, .inr (9, [.ref h1, .ref h2, .int 0, .int 0, .int 0, .int 0]))] sz) := by
  refine Met.ofW (cc := cX9_startAnew) (maxL := 1) (ret := none) (by decide) rfl ?_
  intro p e s m args below meth c s₁ B hml hv
  obtain ⟨rfl, hsz, hP, hK, hD0⟩ := hv
  have hx := B.exec
  have hb := B.bytes
  have hr := B.returns
  have hts0 := atoms_spec (ws := Cond.code yX9_startAnew cX9_startAnew 1 none :: lw_G) B.pre
  have hG : ∀ w ∈ lw_G, w.before _ s = true := fun w h => hts0 w (List.mem_cons_of_mem _ h)
  have hown : s.vm.findClass RX9 = some m.cls := findClass_of_methodNamed B.named
  have hlocks := B.notSynchronized
  subst hsz
  have hD := hD0.self (sz := s.heap.size)
  generalize hAe : va_A [(h0, .inr (9, [.ref h1, .ref h2, .int 0, .int 0, .int 0, .int 0]))] s.heap.size = A at hD ⊢
  have hA : ∀ q : Nat, s.heap.size ≤ q → A q := fun q h => by rw [← hAe]; exact Or.inr h
  have hS : va_S A s.heap s.heap [] := va_S.rf
  have hP : va_P (dC, dI) vwCl [(h0, .inr (9, [.ref h1, .ref h2, .int 0, .int 0, .int 0, .int 0]))] s.heap := hP
  have hl := lv_entry ([.ref h0]) (n := 1) (Nat.le_of_ble_eq_true rfl)
  rw [lg_entry_eq]
  generalize (lg_sl ([.ref h0]) ++ List.replicate (1 - (lg_sl ([.ref h0])).length) Slot.unset).toArray = ls at hl ⊢
  have hl : lv_has ls 1 [(0, .ref h0)] := hl
  refine lv_aload_n hx hb dX9_startAnew_0 rfl (lv_at hl 0 rfl) ?_
  refine lv_iconst (v := 0) hx hb dX9_startAnew_1 (by decide) ?_
  refine va_put (D := (dC, dI)) (ci := 9) (v := .int 0) (ty := .int) (C := RX9) (T := TX9) (N := 6) hx hb hG inGX9 tyX9 tyX9_ok nmX9 hown hK hP hD hS 0 rfl rfl 3 (by decide) (hG _ wd_98) (fun _ h9 => h9) rfl (by decide +kernel) rfl rfl (Nat.le_of_ble_eq_true rfl) dX9_startAnew_2 (fun H locs hP hD hS => ?_)
  have hP : va_P (dC, dI) vwCl [(h0, .inr (9, [.ref h1, .ref h2, .int 0, .int 0, .int 0, .int 0]))] H := hP
  have hD : va_D A [(h0, .inr (9, [.ref h1, .ref h2, .int 0, .int 0, .int 0, .int 0]))] := hD
  refine lv_aload_n hx hb dX9_startAnew_5 rfl (lv_at hl 0 rfl) ?_
  refine lv_iconst (v := 0) hx hb dX9_startAnew_6 (by decide) ?_
  refine va_put (D := (dC, dI)) (ci := 9) (v := .int 0) (ty := .int) (C := RX9) (T := TX9) (N := 6) hx hb hG inGX9 tyX9 tyX9_ok nmX9 hown hK hP hD hS 0 rfl rfl 4 (by decide) (hG _ wd_99) (fun _ h9 => h9) rfl (by decide +kernel) rfl rfl (Nat.le_of_ble_eq_true rfl) dX9_startAnew_7 (fun H locs hP hD hS => ?_)
  have hP : va_P (dC, dI) vwCl [(h0, .inr (9, [.ref h1, .ref h2, .int 0, .int 0, .int 0, .int 0]))] H := hP
  have hD : va_D A [(h0, .inr (9, [.ref h1, .ref h2, .int 0, .int 0, .int 0, .int 0]))] := hD
  refine lv_aload_n hx hb dX9_startAnew_10 rfl (lv_at hl 0 rfl) ?_
  refine lv_iconst (v := 0) hx hb dX9_startAnew_11 (by decide) ?_
  refine va_put (D := (dC, dI)) (ci := 9) (v := .int 0) (ty := .boolean) (C := RX9) (T := TX9) (N := 6) hx hb hG inGX9 tyX9 tyX9_ok nmX9 hown hK hP hD hS 0 rfl rfl 5 (by decide) (hG _ wd_100) (fun _ h9 => h9) rfl (by decide +kernel) rfl rfl (Nat.le_of_ble_eq_true rfl) dX9_startAnew_12 (fun H locs hP hD hS => ?_)
  have hP : va_P (dC, dI) vwCl [(h0, .inr (9, [.ref h1, .ref h2, .int 0, .int 0, .int 0, .int 0]))] H := hP
  have hD : va_D A [(h0, .inr (9, [.ref h1, .ref h2, .int 0, .int 0, .int 0, .int 0]))] := hD
  have hP9 := hP.sub (ws' := [(h0, .inr (9, [.ref h1, .ref h2, .int 0, .int 0, .int 0, .int 0]))]) [0] rfl
  have hD9 := hD.sub (ws' := [(h0, .inr (9, [.ref h1, .ref h2, .int 0, .int 0, .int 0, .int 0]))]) [0] (by decide) rfl
  have hK9 := hK.sub (tys' := []) [] rfl
  exact W.vret hx hb hr (fun t ht hW => ⟨⟨(), rfl, trivial, by rw [ht]; exact hP9, va_K.moved hW.alike hK9, hD9⟩, hS.F ht⟩) hS.2.2 dX9_startAnew_15
set_option maxHeartbeats 4000000 in
set_option maxRecDepth 100000 in
theorem cX9_clear_1 (l : Launch) (dC : Nat → ClassId) (dI : Nat → Nat → Nat) (h0 h1 h2 : Nat) (y0 y1 : ClassId) (sz : Nat) : Met l yX9_clear (Cond.code yX9_clear cX9_clear 2 none :: lw_G) ({ frames := 1, cells := 0, slots := 0, locals := 20 }) (va_Pc [.ref h0] (fun U => U.heap.size = sz ∧ va_P (dC, dI) vwCl [(h0, .inr (9, [.ref h1, .ref h2, .int 0, .int 0, .int 0, .int 0])), (h1, .inl (y0, 3, .inl (fun _ => 0))), (h2, .inl (y1, 3, .inl (fun _ => 0)))] U.heap ∧ va_K (dC, dI) vwCl [(y0, .int), (y1, .int)] U ∧ va_D (fun _ => True) [(h0, .inr (9, [.ref h1, .ref h2, .int 0, .int 0, .int 0, .int 0])), (h1, .inl (y0, 3, .inl (fun _ => 0))), (h2, .inl (y1, 3, .inl (fun _ => 0)))])) (va_Qv (fun (u : (Nat → Int32) × (Nat → Int32)) => (∀ j, iv (u.1 j) 0 0) ∧ (∀ j, iv (u.2 j) 0 0) ∧ True) (fun (u : (Nat → Int32) × (Nat → Int32)) (t : State) => va_P (dC, dI) vwCl [(h0, .inr (9, [.ref h1, .ref h2, .int 0, .int 0, .int 0, .int 0])), (h1, .inl (y0, 3, .inl u.1)), (h2, .inl (y1, 3, .inl u.2))] t.heap ∧ va_K (dC, dI) vwCl [(y0, .int), (y1, .int)] t ∧ va_D (va_A [(h0, .inr (9, [.ref h1, .ref h2, .int 0, .int 0, .int 0, .int 0])), (h1, .inl (y0, 3, .inl (fun _ => 0))), (h2, .inl (y1, 3, .inl (fun _ => 0)))] sz) [(h0, .inr (9, [.ref h1, .ref h2, .int 0, .int 0, .int 0, .int 0])), (h1, .inl (y0, 3, .inl u.1)), (h2, .inl (y1, 3, .inl u.2))]) (va_A [(h0, .inr (9, [.ref h1, .ref h2, .int 0, .int 0, .int 0, .int 0])), (h1, .inl (y0, 3, .inl (fun _ => 0))), (h2, .inl (y1, 3, .inl (fun _ => 0)))] sz)) 0 0 (va_A [(h0, .inr (9, [.ref h1, .ref h2, .int 0, .int 0, .int 0, .int 0])), (h1, .inl (y0, 3, .inl (fun _ => 0))), (h2, .inl (y1, 3, .inl (fun _ => 0)))] sz) := by
  refine Met.ofW (cc := cX9_clear) (maxL := 2) (ret := none) (by decide) rfl ?_
  intro p e s m args below meth c s₁ B hml hv
  obtain ⟨rfl, hsz, hP, hK, hD0⟩ := hv
  have hx := B.exec
  have hb := B.bytes
  have hr := B.returns
  have hts0 := atoms_spec (ws := Cond.code yX9_clear cX9_clear 2 none :: lw_G) B.pre
  have hG : ∀ w ∈ lw_G, w.before _ s = true := fun w h => hts0 w (List.mem_cons_of_mem _ h)
  have hown : s.vm.findClass RX9 = some m.cls := findClass_of_methodNamed B.named
  have hlocks := B.notSynchronized
  subst hsz
  have hD := hD0.self (sz := s.heap.size)
  generalize hAe : va_A [(h0, .inr (9, [.ref h1, .ref h2, .int 0, .int 0, .int 0, .int 0])), (h1, .inl (y0, 3, .inl (fun _ => 0))), (h2, .inl (y1, 3, .inl (fun _ => 0)))] s.heap.size = A at hD ⊢
  have hA : ∀ q : Nat, s.heap.size ≤ q → A q := fun q h => by rw [← hAe]; exact Or.inr h
  have hS : va_S A s.heap s.heap [] := va_S.rf
  have hP : va_P (dC, dI) vwCl [(h0, .inr (9, [.ref h1, .ref h2, .int 0, .int 0, .int 0, .int 0])), (h1, .inl (y0, 3, .inl (fun _ => 0))), (h2, .inl (y1, 3, .inl (fun _ => 0)))] s.heap := hP
  have hl := lv_entry ([.ref h0]) (n := 2) (Nat.le_of_ble_eq_true rfl)
  rw [lg_entry_eq]
  generalize (lg_sl ([.ref h0]) ++ List.replicate (2 - (lg_sl ([.ref h0])).length) Slot.unset).toArray = ls at hl ⊢
  have hl : lv_has ls 2 [(0, .ref h0)] := hl
  refine lv_iconst (v := 0) hx hb dX9_clear_0 (by decide) ?_
  refine lv_istore_n (lv' := [(1, .int 0), (0, .ref h0)]) hx hb dX9_clear_1 rfl hl (by decide) rfl (fun ls hl => ?_)
  refine lv_iload_n hx hb dX9_clear_2 rfl (lv_at hl 0 rfl) ?_
  refine lv_iconst (v := 3) hx hb dX9_clear_3 (by decide) ?_
  refine lv_icmp_ge (tgt := 27) hx hb dX9_clear_4 (by decide) (fun c => absurd c (by decide)) (fun _ => ?_)
  refine lv_aload_n hx hb dX9_clear_7 rfl (lv_at hl 1 rfl) ?_
  refine va_get (D := (dC, dI)) (ci := 9) (v := .ref h1) (C := RX9) (T := TX9) (N := 6) hx hb hG inGX9 hown hK hP 0 rfl rfl 0 (by decide) (hG _ wd_95) (fun _ h9 => h9) rfl dX9_clear_8 ?_
  refine lv_iload_n hx hb dX9_clear_11 rfl (lv_at hl 0 rfl) ?_
  refine lv_iconst (v := 0) hx hb dX9_clear_12 (by decide) ?_
  refine va_iast hx hb hK hP hD hS 1 0 rfl rfl (iv_in (by decide : iv 0 0 0) (by decide) (by decide) : vp_in 0 3) dX9_clear_13 (fun H locs hP hD hS => ?_)
  have hP : va_P (dC, dI) vwCl [(h0, .inr (9, [.ref h1, .ref h2, .int 0, .int 0, .int 0, .int 0])), (h1, .inl (y0, 3, .inl (upd (fun _ => 0) (0 : Int32).toNatClampNeg 0))), (h2, .inl (y1, 3, .inl (fun _ => 0)))] H := hP
  have hD : va_D A [(h0, .inr (9, [.ref h1, .ref h2, .int 0, .int 0, .int 0, .int 0])), (h1, .inl (y0, 3, .inl (upd (fun _ => 0) (0 : Int32).toNatClampNeg 0))), (h2, .inl (y1, 3, .inl (fun _ => 0)))] := hD
  obtain ⟨f1, ef1⟩ : ∃ z, z = upd (fun _ => 0) (0 : Int32).toNatClampNeg 0 := ⟨_, rfl⟩
  rw [← ef1] at hP hD
  have if1 : ∀ j, iv (f1 j) 0 0 := by rw [ef1]; exact iv_upd (fun _ => (by decide : iv 0 0 0)) (by decide : iv 0 0 0) (by decide) (by decide) (by decide) (by decide)
  refine lv_aload_n hx hb dX9_clear_14 rfl (lv_at hl 1 rfl) ?_
  refine va_get (D := (dC, dI)) (ci := 9) (v := .ref h2) (C := RX9) (T := TX9) (N := 6) hx hb hG inGX9 hown hK hP 0 rfl rfl 1 (by decide) (hG _ wd_96) (fun _ h9 => h9) rfl dX9_clear_15 ?_
  refine lv_iload_n hx hb dX9_clear_18 rfl (lv_at hl 0 rfl) ?_
  refine lv_iconst (v := 0) hx hb dX9_clear_19 (by decide) ?_
  refine va_iast hx hb hK hP hD hS 2 1 rfl rfl (iv_in (by decide : iv 0 0 0) (by decide) (by decide) : vp_in 0 3) dX9_clear_20 (fun H locs hP hD hS => ?_)
  have hP : va_P (dC, dI) vwCl [(h0, .inr (9, [.ref h1, .ref h2, .int 0, .int 0, .int 0, .int 0])), (h1, .inl (y0, 3, .inl f1)), (h2, .inl (y1, 3, .inl (upd (fun _ => 0) (0 : Int32).toNatClampNeg 0)))] H := hP
  have hD : va_D A [(h0, .inr (9, [.ref h1, .ref h2, .int 0, .int 0, .int 0, .int 0])), (h1, .inl (y0, 3, .inl f1)), (h2, .inl (y1, 3, .inl (upd (fun _ => 0) (0 : Int32).toNatClampNeg 0)))] := hD
  obtain ⟨f2, ef2⟩ : ∃ z, z = upd (fun _ => 0) (0 : Int32).toNatClampNeg 0 := ⟨_, rfl⟩
  rw [← ef2] at hP hD
  have if2 : ∀ j, iv (f2 j) 0 0 := by rw [ef2]; exact iv_upd (fun _ => (by decide : iv 0 0 0)) (by decide : iv 0 0 0) (by decide) (by decide) (by decide) (by decide)
  refine lv_iinc (v := 1) (lv' := [(1, .int 1), (0, .ref h0)]) hx hb dX9_clear_21 hl (k := 0) rfl (by decide) (by decide) rfl (fun ls hl => ?_)
  refine lv_goto (tgt := 2) hx hb dX9_clear_24 (by decide) ?_
  refine lv_iload_n hx hb dX9_clear_2 rfl (lv_at hl 0 rfl) ?_
  refine lv_iconst (v := 3) hx hb dX9_clear_3 (by decide) ?_
  refine lv_icmp_ge (tgt := 27) hx hb dX9_clear_4 (by decide) (fun c => absurd c (by decide)) (fun _ => ?_)
  refine lv_aload_n hx hb dX9_clear_7 rfl (lv_at hl 1 rfl) ?_
  refine va_get (D := (dC, dI)) (ci := 9) (v := .ref h1) (C := RX9) (T := TX9) (N := 6) hx hb hG inGX9 hown hK hP 0 rfl rfl 0 (by decide) (hG _ wd_95) (fun _ h9 => h9) rfl dX9_clear_8 ?_
  refine lv_iload_n hx hb dX9_clear_11 rfl (lv_at hl 0 rfl) ?_
  refine lv_iconst (v := 0) hx hb dX9_clear_12 (by decide) ?_
  refine va_iast hx hb hK hP hD hS 1 0 rfl rfl (iv_in (by decide : iv 1 1 1) (by decide) (by decide) : vp_in 1 3) dX9_clear_13 (fun H locs hP hD hS => ?_)
  have hP : va_P (dC, dI) vwCl [(h0, .inr (9, [.ref h1, .ref h2, .int 0, .int 0, .int 0, .int 0])), (h1, .inl (y0, 3, .inl (upd f1 (1 : Int32).toNatClampNeg 0))), (h2, .inl (y1, 3, .inl f2))] H := hP
  have hD : va_D A [(h0, .inr (9, [.ref h1, .ref h2, .int 0, .int 0, .int 0, .int 0])), (h1, .inl (y0, 3, .inl (upd f1 (1 : Int32).toNatClampNeg 0))), (h2, .inl (y1, 3, .inl f2))] := hD
  obtain ⟨f3, ef3⟩ : ∃ z, z = upd f1 (1 : Int32).toNatClampNeg 0 := ⟨_, rfl⟩
  rw [← ef3] at hP hD
  have if3 : ∀ j, iv (f3 j) 0 0 := by rw [ef3]; exact iv_upd if1 (by decide : iv 0 0 0) (by decide) (by decide) (by decide) (by decide)
  refine lv_aload_n hx hb dX9_clear_14 rfl (lv_at hl 1 rfl) ?_
  refine va_get (D := (dC, dI)) (ci := 9) (v := .ref h2) (C := RX9) (T := TX9) (N := 6) hx hb hG inGX9 hown hK hP 0 rfl rfl 1 (by decide) (hG _ wd_96) (fun _ h9 => h9) rfl dX9_clear_15 ?_
  refine lv_iload_n hx hb dX9_clear_18 rfl (lv_at hl 0 rfl) ?_
  refine lv_iconst (v := 0) hx hb dX9_clear_19 (by decide) ?_
  refine va_iast hx hb hK hP hD hS 2 1 rfl rfl (iv_in (by decide : iv 1 1 1) (by decide) (by decide) : vp_in 1 3) dX9_clear_20 (fun H locs hP hD hS => ?_)
  have hP : va_P (dC, dI) vwCl [(h0, .inr (9, [.ref h1, .ref h2, .int 0, .int 0, .int 0, .int 0])), (h1, .inl (y0, 3, .inl f3)), (h2, .inl (y1, 3, .inl (upd f2 (1 : Int32).toNatClampNeg 0)))] H := hP
  have hD : va_D A [(h0, .inr (9, [.ref h1, .ref h2, .int 0, .int 0, .int 0, .int 0])), (h1, .inl (y0, 3, .inl f3)), (h2, .inl (y1, 3, .inl (upd f2 (1 : Int32).toNatClampNeg 0)))] := hD
  obtain ⟨f4, ef4⟩ : ∃ z, z = upd f2 (1 : Int32).toNatClampNeg 0 := ⟨_, rfl⟩
  rw [← ef4] at hP hD
  have if4 : ∀ j, iv (f4 j) 0 0 := by rw [ef4]; exact iv_upd if2 (by decide : iv 0 0 0) (by decide) (by decide) (by decide) (by decide)
  refine lv_iinc (v := 2) (lv' := [(1, .int 2), (0, .ref h0)]) hx hb dX9_clear_21 hl (k := 0) rfl (by decide) (by decide) rfl (fun ls hl => ?_)
  refine lv_goto (tgt := 2) hx hb dX9_clear_24 (by decide) ?_
  refine lv_iload_n hx hb dX9_clear_2 rfl (lv_at hl 0 rfl) ?_
  refine lv_iconst (v := 3) hx hb dX9_clear_3 (by decide) ?_
  refine lv_icmp_ge (tgt := 27) hx hb dX9_clear_4 (by decide) (fun c => absurd c (by decide)) (fun _ => ?_)
  refine lv_aload_n hx hb dX9_clear_7 rfl (lv_at hl 1 rfl) ?_
  refine va_get (D := (dC, dI)) (ci := 9) (v := .ref h1) (C := RX9) (T := TX9) (N := 6) hx hb hG inGX9 hown hK hP 0 rfl rfl 0 (by decide) (hG _ wd_95) (fun _ h9 => h9) rfl dX9_clear_8 ?_
  refine lv_iload_n hx hb dX9_clear_11 rfl (lv_at hl 0 rfl) ?_
  refine lv_iconst (v := 0) hx hb dX9_clear_12 (by decide) ?_
  refine va_iast hx hb hK hP hD hS 1 0 rfl rfl (iv_in (by decide : iv 2 2 2) (by decide) (by decide) : vp_in 2 3) dX9_clear_13 (fun H locs hP hD hS => ?_)
  have hP : va_P (dC, dI) vwCl [(h0, .inr (9, [.ref h1, .ref h2, .int 0, .int 0, .int 0, .int 0])), (h1, .inl (y0, 3, .inl (upd f3 (2 : Int32).toNatClampNeg 0))), (h2, .inl (y1, 3, .inl f4))] H := hP
  have hD : va_D A [(h0, .inr (9, [.ref h1, .ref h2, .int 0, .int 0, .int 0, .int 0])), (h1, .inl (y0, 3, .inl (upd f3 (2 : Int32).toNatClampNeg 0))), (h2, .inl (y1, 3, .inl f4))] := hD
  obtain ⟨f5, ef5⟩ : ∃ z, z = upd f3 (2 : Int32).toNatClampNeg 0 := ⟨_, rfl⟩
  rw [← ef5] at hP hD
  have if5 : ∀ j, iv (f5 j) 0 0 := by rw [ef5]; exact iv_upd if3 (by decide : iv 0 0 0) (by decide) (by decide) (by decide) (by decide)
  refine lv_aload_n hx hb dX9_clear_14 rfl (lv_at hl 1 rfl) ?_
  refine va_get (D := (dC, dI)) (ci := 9) (v := .ref h2) (C := RX9) (T := TX9) (N := 6) hx hb hG inGX9 hown hK hP 0 rfl rfl 1 (by decide) (hG _ wd_96) (fun _ h9 => h9) rfl dX9_clear_15 ?_
  refine lv_iload_n hx hb dX9_clear_18 rfl (lv_at hl 0 rfl) ?_
  refine lv_iconst (v := 0) hx hb dX9_clear_19 (by decide) ?_
  refine va_iast hx hb hK hP hD hS 2 1 rfl rfl (iv_in (by decide : iv 2 2 2) (by decide) (by decide) : vp_in 2 3) dX9_clear_20 (fun H locs hP hD hS => ?_)
  have hP : va_P (dC, dI) vwCl [(h0, .inr (9, [.ref h1, .ref h2, .int 0, .int 0, .int 0, .int 0])), (h1, .inl (y0, 3, .inl f5)), (h2, .inl (y1, 3, .inl (upd f4 (2 : Int32).toNatClampNeg 0)))] H := hP
  have hD : va_D A [(h0, .inr (9, [.ref h1, .ref h2, .int 0, .int 0, .int 0, .int 0])), (h1, .inl (y0, 3, .inl f5)), (h2, .inl (y1, 3, .inl (upd f4 (2 : Int32).toNatClampNeg 0)))] := hD
  obtain ⟨f6, ef6⟩ : ∃ z, z = upd f4 (2 : Int32).toNatClampNeg 0 := ⟨_, rfl⟩
  rw [← ef6] at hP hD
  have if6 : ∀ j, iv (f6 j) 0 0 := by rw [ef6]; exact iv_upd if4 (by decide : iv 0 0 0) (by decide) (by decide) (by decide) (by decide)
  refine lv_iinc (v := 3) (lv' := [(1, .int 3), (0, .ref h0)]) hx hb dX9_clear_21 hl (k := 0) rfl (by decide) (by decide) rfl (fun ls hl => ?_)
  refine lv_goto (tgt := 2) hx hb dX9_clear_24 (by decide) ?_
  refine lv_iload_n hx hb dX9_clear_2 rfl (lv_at hl 0 rfl) ?_
  refine lv_iconst (v := 3) hx hb dX9_clear_3 (by decide) ?_
  refine lv_icmp_ge (tgt := 27) hx hb dX9_clear_4 (by decide) (fun _ => ?_) (fun c => absurd (by decide) c)
  refine lv_aload_n hx hb dX9_clear_27 rfl (lv_at hl 1 rfl) ?_
  refine lv_iconst (v := 0) hx hb dX9_clear_28 (by decide) ?_
  refine va_put (D := (dC, dI)) (ci := 9) (v := .int 0) (ty := .int) (C := RX9) (T := TX9) (N := 6) hx hb hG inGX9 tyX9 tyX9_ok nmX9 hown hK hP hD hS 0 rfl rfl 2 (by decide) (hG _ wd_97) (fun _ h9 => h9) rfl (by decide +kernel) rfl rfl (Nat.le_of_ble_eq_true rfl) dX9_clear_29 (fun H locs hP hD hS => ?_)
  have hP : va_P (dC, dI) vwCl [(h0, .inr (9, [.ref h1, .ref h2, .int 0, .int 0, .int 0, .int 0])), (h1, .inl (y0, 3, .inl f5)), (h2, .inl (y1, 3, .inl f6))] H := hP
  have hD : va_D A [(h0, .inr (9, [.ref h1, .ref h2, .int 0, .int 0, .int 0, .int 0])), (h1, .inl (y0, 3, .inl f5)), (h2, .inl (y1, 3, .inl f6))] := hD
  refine lv_aload_n hx hb dX9_clear_32 rfl (lv_at hl 1 rfl) ?_
  have hPc := hP.sub (ws' := [(h0, .inr (9, [.ref h1, .ref h2, .int 0, .int 0, .int 0, .int 0]))]) [0] rfl
  have hDc := hD.sub (ws' := [(h0, .inr (9, [.ref h1, .ref h2, .int 0, .int 0, .int 0, .int 0]))]) [0] (by decide) rfl
  have hKc := hK.sub (tys' := []) [] rfl
  have hFc := va_free (wc := [(h0, .inr (9, [.ref h1, .ref h2, .int 0, .int 0, .int 0, .int 0]))]) hD hS hA [0] rfl
  refine va_callv (va_runV (As := []) (rest := []) ⟨hx, hb, hml, hown, hG⟩ (cX9_startAnew_1 l dC dI h0 h1 h2 H.size) (cwV 0 hG (gV wd_764 wd_766 wp_30 wd_5 wd_767) rfl rfl rfl (by decide +kernel) ⟨Nat.le_of_ble_eq_true rfl, Nat.le_of_ble_eq_true rfl⟩) ⟨fun a U g mk q => by obtain ⟨q0, q1, qP, qK, qD⟩ := q; exact ⟨q0, q1, qP, va_K.moved (u := U) (U := U.calling g mk a) (Vm.Alike.refl U.vm) qK, qD⟩, va_recv hKc hPc (ci := 9) (q0 := 0) rfl rfl, fun U hU hW => ⟨rfl, by rw [hU], by rw [hU]; exact hPc, va_K.moved hW.alike hKc, hDc.weaken (fun _ _ _ _ => trivial)⟩⟩ rfl rfl hl.1 rfl (lv_room (Nat.le_of_ble_eq_true rfl)) dX9_clear_33 ⟨by decide, by decide⟩) hS (fun q _ h => hFc q h) hFc (fun u8 t H1 locs ht hvm hw hB hz1 hk1 hS => ?_)
  obtain ⟨hP1, hK1, hD1⟩ := hB
  rw [ht] at hP1
  have hK1 := va_K.moved hvm.symm hK1
  obtain ⟨hP, hD⟩ := va_join (wr := [(h1, .inl (y0, 3, .inl f5)), (h2, .inl (y1, 3, .inl f6))]) (w1 := [(h0, .inr (9, [.ref h1, .ref h2, .int 0, .int 0, .int 0, .int 0]))]) hP hD [0] [1, 2] rfl rfl (by decide) (by decide) hk1 hFc hP1 hD1
  have hK := (hK.sub (tys' := [(y0, .int), (y1, .int)]) [0, 1] rfl).app hK1
  generalize H1 = H at hP hS ⊢
  have hP : va_P (dC, dI) vwCl [(h1, .inl (y0, 3, .inl f5)), (h2, .inl (y1, 3, .inl f6)), (h0, .inr (9, [.ref h1, .ref h2, .int 0, .int 0, .int 0, .int 0]))] H := hP
  have hD : va_D A [(h1, .inl (y0, 3, .inl f5)), (h2, .inl (y1, 3, .inl f6)), (h0, .inr (9, [.ref h1, .ref h2, .int 0, .int 0, .int 0, .int 0]))] := hD
  have hK : va_K (dC, dI) vwCl [(y0, .int), (y1, .int)] s := hK
  have hP9 := hP.sub (ws' := [(h0, .inr (9, [.ref h1, .ref h2, .int 0, .int 0, .int 0, .int 0])), (h1, .inl (y0, 3, .inl f5)), (h2, .inl (y1, 3, .inl f6))]) [2, 0, 1] rfl
  have hD9 := hD.sub (ws' := [(h0, .inr (9, [.ref h1, .ref h2, .int 0, .int 0, .int 0, .int 0])), (h1, .inl (y0, 3, .inl f5)), (h2, .inl (y1, 3, .inl f6))]) [2, 0, 1] (by decide) rfl
  have hK9 := hK.sub (tys' := [(y0, .int), (y1, .int)]) [0, 1] rfl
  exact W.vret hx hb hr (fun t ht hW => ⟨⟨(f5, f6), rfl, ⟨(fun j => iv_w (if5 j) (by decide) (by decide)), (fun j => iv_w (if6 j) (by decide) (by decide)), trivial⟩, by rw [ht]; exact hP9, va_K.moved hW.alike hK9, hD9⟩, hS.F ht⟩) hS.2.2 dX9_clear_36
set_option maxHeartbeats 4000000 in
set_option maxRecDepth 100000 in
theorem cX9_init_1 (l : Launch) (dC : Nat → ClassId) (dI : Nat → Nat → Nat) (h0 h1 h2 : Nat) (sz : Nat) : Met l yX9_init (Cond.code yX9_init cX9_init 1 none :: lw_G) ({ frames := 1, cells := 2, slots := 6, locals := 12 }) (va_Pc [.ref h0] (fun U => U.heap.size = sz ∧ va_P (dC, dI) vwCl [(h0, .inr (9, [.ref h1, .ref h2, .int 0, .int 0, .int 0, .int 0]))] U.heap ∧ va_K (dC, dI) vwCl [] U ∧ va_D (fun _ => True) [(h0, .inr (9, [.ref h1, .ref h2, .int 0, .int 0, .int 0, .int 0]))])) (va_Qv (fun (u : Nat × Nat × ClassId × ClassId) => True) (fun (u : Nat × Nat × ClassId × ClassId) (t : State) => va_P (dC, dI) vwCl [(h0, .inr (9, [.ref u.1, .ref u.2.1, .int 0, .int 0, .int 0, .int 0])), (u.1, .inl (u.2.2.1, 3, .inl (fun _ => 0))), (u.2.1, .inl (u.2.2.2, 3, .inl (fun _ => 0)))] t.heap ∧ va_K (dC, dI) vwCl [(u.2.2.1, .int), (u.2.2.2, .int)] t ∧ va_D (va_A [(h0, .inr (9, [.ref h1, .ref h2, .int 0, .int 0, .int 0, .int 0]))] sz) [(h0, .inr (9, [.ref u.1, .ref u.2.1, .int 0, .int 0, .int 0, .int 0])), (u.1, .inl (u.2.2.1, 3, .inl (fun _ => 0))), (u.2.1, .inl (u.2.2.2, 3, .inl (fun _ => 0)))]) (va_A [(h0, .inr (9, [.ref h1, .ref h2, .int 0, .int 0, .int 0, .int 0]))] sz)) 2 6 (va_A [(h0, .inr (9, [.ref h1, .ref h2, .int 0, .int 0, .int 0, .int 0]))] sz) := by
  refine Met.ofW (cc := cX9_init) (maxL := 1) (ret := none) (by decide) rfl ?_
  intro p e s m args below meth c s₁ B hml hv
  obtain ⟨rfl, hsz, hP, hK, hD0⟩ := hv
  have hx := B.exec
  have hb := B.bytes
  have hr := B.returns
  have hts0 := atoms_spec (ws := Cond.code yX9_init cX9_init 1 none :: lw_G) B.pre
  have hG : ∀ w ∈ lw_G, w.before _ s = true := fun w h => hts0 w (List.mem_cons_of_mem _ h)
  have hown : s.vm.findClass RX9 = some m.cls := findClass_of_methodNamed B.named
  have hlocks := B.notSynchronized
  have hin : meth.name = "<init>" := (name_of_methodNamed B.named B.method).1
  subst hsz
  have hD := hD0.self (sz := s.heap.size)
  generalize hAe : va_A [(h0, .inr (9, [.ref h1, .ref h2, .int 0, .int 0, .int 0, .int 0]))] s.heap.size = A at hD ⊢
  have hA : ∀ q : Nat, s.heap.size ≤ q → A q := fun q h => by rw [← hAe]; exact Or.inr h
  have hS : va_S A s.heap s.heap [] := va_S.rf
  have hP : va_P (dC, dI) vwCl [(h0, .inr (9, [.ref h1, .ref h2, .int 0, .int 0, .int 0, .int 0]))] s.heap := hP
  have hl := lv_entry ([.ref h0]) (n := 1) (Nat.le_of_ble_eq_true rfl)
  rw [lg_entry_eq]
  generalize (lg_sl ([.ref h0]) ++ List.replicate (1 - (lg_sl ([.ref h0])).length) Slot.unset).toArray = ls at hl ⊢
  have hl : lv_has ls 1 [(0, .ref h0)] := hl
  refine lv_aload_n hx hb dX9_init_0 rfl (lv_at hl 0 rfl) ?_
  refine W.objInit hx hb hown (hG _ wd_94) (hG _ wd_32) (hG _ wd_33) rfl (by rw [hml]; exact hl.1) rfl dX9_init_1 (Nat.le_of_ble_eq_true rfl) (Nat.le_of_ble_eq_true rfl) ?_
  refine W.eq (g2 := F0 m 4 ls []) rfl ?_
  refine lv_aload_n hx hb dX9_init_4 rfl (lv_at hl 0 rfl) ?_
  refine lv_iconst (v := 3) hx hb dX9_init_5 (by decide) ?_
  refine va_newa (atype := .int) (ty := .int) (a0 := (3, (.inl (fun _ => 0)))) hx hb (hG _ wd_63) rfl hK hP hD hS hA (fun _ => rfl) (by decide) (by decide) (by decide) (by decide) (by decide) dX9_init_6 (fun q1 y2 H hK hP hD hS => ?_)
  have hP : va_P (dC, dI) vwCl [(h0, .inr (9, [.ref h1, .ref h2, .int 0, .int 0, .int 0, .int 0])), (q1, .inl (y2, 3, .inl (fun _ => 0)))] H := hP
  have hD : va_D A [(h0, .inr (9, [.ref h1, .ref h2, .int 0, .int 0, .int 0, .int 0])), (q1, .inl (y2, 3, .inl (fun _ => 0)))] := hD
  have hK : va_K (dC, dI) vwCl [(y2, .int)] s := hK
  refine W.widen (k := 1) (n := 3) (by decide) (by decide) ?_
  refine va_putF (D := (dC, dI)) (ci := 9) (v := .ref q1) (ty := .array .int) (C := RX9) (T := TX9) (N := 6) hx hb hG inGX9 tyX9 tyX9_ok nmX9 hown hK hP hD hS 0 rfl rfl 0 (by decide) (hG _ wd_95) (fun _ h9 => h9) rfl hin rfl (by decide +kernel) rfl rfl (Nat.le_of_ble_eq_true rfl) dX9_init_8 (fun H locs hP hD hS => ?_)
  have hP : va_P (dC, dI) vwCl [(h0, .inr (9, [.ref q1, .ref h2, .int 0, .int 0, .int 0, .int 0])), (q1, .inl (y2, 3, .inl (fun _ => 0)))] H := hP
  have hD : va_D A [(h0, .inr (9, [.ref q1, .ref h2, .int 0, .int 0, .int 0, .int 0])), (q1, .inl (y2, 3, .inl (fun _ => 0)))] := hD
  refine lv_aload_n hx hb dX9_init_11 rfl (lv_at hl 0 rfl) ?_
  refine lv_iconst (v := 3) hx hb dX9_init_12 (by decide) ?_
  refine va_newa (atype := .int) (ty := .int) (a0 := (3, (.inl (fun _ => 0)))) hx hb (hG _ wd_63) rfl hK hP hD hS hA (fun _ => rfl) (by decide) (by decide) (by decide) (by decide) (by decide) dX9_init_13 (fun q3 y4 H hK hP hD hS => ?_)
  have hP : va_P (dC, dI) vwCl [(h0, .inr (9, [.ref q1, .ref h2, .int 0, .int 0, .int 0, .int 0])), (q1, .inl (y2, 3, .inl (fun _ => 0))), (q3, .inl (y4, 3, .inl (fun _ => 0)))] H := hP
  have hD : va_D A [(h0, .inr (9, [.ref q1, .ref h2, .int 0, .int 0, .int 0, .int 0])), (q1, .inl (y2, 3, .inl (fun _ => 0))), (q3, .inl (y4, 3, .inl (fun _ => 0)))] := hD
  have hK : va_K (dC, dI) vwCl [(y2, .int), (y4, .int)] s := hK
  refine W.widen (k := 2) (n := 6) (by decide) (by decide) ?_
  refine va_putF (D := (dC, dI)) (ci := 9) (v := .ref q3) (ty := .array .int) (C := RX9) (T := TX9) (N := 6) hx hb hG inGX9 tyX9 tyX9_ok nmX9 hown hK hP hD hS 0 rfl rfl 1 (by decide) (hG _ wd_96) (fun _ h9 => h9) rfl hin rfl (by decide +kernel) rfl rfl (Nat.le_of_ble_eq_true rfl) dX9_init_15 (fun H locs hP hD hS => ?_)
  have hP : va_P (dC, dI) vwCl [(h0, .inr (9, [.ref q1, .ref q3, .int 0, .int 0, .int 0, .int 0])), (q1, .inl (y2, 3, .inl (fun _ => 0))), (q3, .inl (y4, 3, .inl (fun _ => 0)))] H := hP
  have hD : va_D A [(h0, .inr (9, [.ref q1, .ref q3, .int 0, .int 0, .int 0, .int 0])), (q1, .inl (y2, 3, .inl (fun _ => 0))), (q3, .inl (y4, 3, .inl (fun _ => 0)))] := hD
  have hP9 := hP.sub (ws' := [(h0, .inr (9, [.ref q1, .ref q3, .int 0, .int 0, .int 0, .int 0])), (q1, .inl (y2, 3, .inl (fun _ => 0))), (q3, .inl (y4, 3, .inl (fun _ => 0)))]) [0, 1, 2] rfl
  have hD9 := hD.sub (ws' := [(h0, .inr (9, [.ref q1, .ref q3, .int 0, .int 0, .int 0, .int 0])), (q1, .inl (y2, 3, .inl (fun _ => 0))), (q3, .inl (y4, 3, .inl (fun _ => 0)))]) [0, 1, 2] (by decide) rfl
  have hK9 := hK.sub (tys' := [(y2, .int), (y4, .int)]) [0, 1] rfl
  refine W.widen (k := 2) (n := 6) (by decide) (by decide) ?_
  exact W.vret hx hb hr (fun t ht hW => ⟨⟨(q1, q3, y2, y4), rfl, trivial, by rw [ht]; exact hP9, va_K.moved hW.alike hK9, hD9⟩, hS.F ht⟩) hS.2.2 dX9_init_18
