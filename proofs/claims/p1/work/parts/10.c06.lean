set_option maxHeartbeats 4000000 in
set_option maxRecDepth 100000 in
theorem cX7_value_3 (l : Launch) (dC : Nat → ClassId) (dI : Nat → Nat → Nat) (h0 : Nat) (sz : Nat) (x0 : Int32) (ix0 : iv x0 0 287) : Met l yX7_value (Cond.code yX7_value cX7_value 2 (some .int) :: lw_G) ({ frames := 0, cells := 0, slots := 0, locals := 0 }) (va_Pc [.ref h0, .int x0] (fun U => U.heap.size = sz ∧ va_P (dC, dI) vwCl [(h0, .inr (7, [.int 0, .int 0, .int 0, .int 0, .int 0]))] U.heap ∧ va_K (dC, dI) vwCl [] U ∧ va_D (fun _ => True) [(h0, .inr (7, [.int 0, .int 0, .int 0, .int 0, .int 0]))])) (va_Qi (fun (r : Int32) (u : Unit) => r = 0 ∧ True) (fun (u : Unit) (t : State) => va_P (dC, dI) vwCl [(h0, .inr (7, [.int 0, .int 0, .int 0, .int 0, .int 0]))] t.heap ∧ va_K (dC, dI) vwCl [] t ∧ va_D (va_A [(h0, .inr (7, [.int 0, .int 0, .int 0, .int 0, .int 0]))] sz) [(h0, .inr (7, [.int 0, .int 0, .int 0, .int 0, .int 0]))]) (va_A [(h0, .inr (7, [.int 0, .int 0, .int 0, .int 0, .int 0]))] sz)) 0 0 (va_A [(h0, .inr (7, [.int 0, .int 0, .int 0, .int 0, .int 0]))] sz) := by
  refine Met.ofW (cc := cX7_value) (maxL := 2) (ret := (some .int)) (by decide) rfl ?_
  intro p e s m args below meth c s₁ B hml hv
  obtain ⟨rfl, hsz, hP, hK, hD0⟩ := hv
  have hx := B.exec
  have hb := B.bytes
  have hr := B.returns
  have hts0 := atoms_spec (ws := Cond.code yX7_value cX7_value 2 (some .int) :: lw_G) B.pre
  have hG : ∀ w ∈ lw_G, w.before _ s = true := fun w h => hts0 w (List.mem_cons_of_mem _ h)
  have hown : s.vm.findClass RX7 = some m.cls := findClass_of_methodNamed B.named
  have hlocks := B.notSynchronized
  subst hsz
  have hD := hD0.self (sz := s.heap.size)
  generalize hAe : va_A [(h0, .inr (7, [.int 0, .int 0, .int 0, .int 0, .int 0]))] s.heap.size = A at hD ⊢
  have hA : ∀ q : Nat, s.heap.size ≤ q → A q := fun q h => by rw [← hAe]; exact Or.inr h
  have hS : va_S A s.heap s.heap [] := va_S.rf
  have hP : va_P (dC, dI) vwCl [(h0, .inr (7, [.int 0, .int 0, .int 0, .int 0, .int 0]))] s.heap := hP
  have hl := lv_entry ([.ref h0, .int x0]) (n := 2) (Nat.le_of_ble_eq_true rfl)
  rw [lg_entry_eq]
  generalize (lg_sl ([.ref h0, .int x0]) ++ List.replicate (2 - (lg_sl ([.ref h0, .int x0])).length) Slot.unset).toArray = ls at hl ⊢
  have hl : lv_has ls 2 [(0, .ref h0), (1, .int x0)] := hl
  refine lv_iload_n hx hb dX7_value_0 rfl (lv_at hl 1 rfl) ?_
  by_cases s1 : x0.toInt < 32 ∨ 37 < x0.toInt
  · skip
    refine lv_tableOut (tgt := 65) hx hb dX7_value_1 s1 (by decide) ?_
    refine lv_iconst (v := 0) hx hb dX7_value_65 (by decide) ?_
    have hP9 := hP.sub (ws' := [(h0, .inr (7, [.int 0, .int 0, .int 0, .int 0, .int 0]))]) [0] rfl
    have hD9 := hD.sub (ws' := [(h0, .inr (7, [.int 0, .int 0, .int 0, .int 0, .int 0]))]) [0] (by decide) rfl
    have hK9 := hK.sub (tys' := []) [] rfl
    exact W.iret (v := 0) hx hb hr (fun t ht hW => ⟨⟨0, (), rfl, ⟨rfl, trivial⟩, by rw [ht]; exact hP9, va_K.moved hW.alike hK9, hD9⟩, hS.F ht⟩) hS.2.2 dX7_value_66
  · skip
    have s1x : x0 = 32 ∨ x0 = 33 ∨ x0 = 34 ∨ x0 = 35 ∨ x0 = 36 ∨ x0 = 37 := by
      have := ix0
      have : x0.toInt = 32 ∨ x0.toInt = 33 ∨ x0.toInt = 34 ∨ x0.toInt = 35 ∨ x0.toInt = 36 ∨ x0.toInt = 37 := by omega
      rcases this with q | q | q | q | q | q
      · exact Or.inl (Int32.toInt_inj.mp q)
      · exact Or.inr (Or.inl (Int32.toInt_inj.mp q))
      · exact Or.inr (Or.inr (Or.inl (Int32.toInt_inj.mp q)))
      · exact Or.inr (Or.inr (Or.inr (Or.inl (Int32.toInt_inj.mp q))))
      · exact Or.inr (Or.inr (Or.inr (Or.inr (Or.inl (Int32.toInt_inj.mp q)))))
      · exact Or.inr (Or.inr (Or.inr (Or.inr (Or.inr ((Int32.toInt_inj.mp q))))))
    rcases s1x with rfl | rfl | rfl | rfl | rfl | rfl
    · skip
      refine lv_tableIn (off := 39) (tgt := 40) hx hb dX7_value_1 (by decide) (by decide) (by decide) (by decide) ?_
      refine lv_aload_n hx hb dX7_value_40 rfl (lv_at hl 0 rfl) ?_
      refine va_get (D := (dC, dI)) (ci := 7) (v := .int 0) (C := RX7) (T := TX7) (N := 5) hx hb hG inGX7 hown hK hP 0 rfl rfl 0 (by decide) (hG _ wd_47) (fun _ h9 => h9) rfl dX7_value_41 ?_
      have hP9 := hP.sub (ws' := [(h0, .inr (7, [.int 0, .int 0, .int 0, .int 0, .int 0]))]) [0] rfl
      have hD9 := hD.sub (ws' := [(h0, .inr (7, [.int 0, .int 0, .int 0, .int 0, .int 0]))]) [0] (by decide) rfl
      have hK9 := hK.sub (tys' := []) [] rfl
      exact W.iret (v := 0) hx hb hr (fun t ht hW => ⟨⟨0, (), rfl, ⟨rfl, trivial⟩, by rw [ht]; exact hP9, va_K.moved hW.alike hK9, hD9⟩, hS.F ht⟩) hS.2.2 dX7_value_44
    · skip
      refine lv_tableIn (off := 44) (tgt := 45) hx hb dX7_value_1 (by decide) (by decide) (by decide) (by decide) ?_
      refine lv_aload_n hx hb dX7_value_45 rfl (lv_at hl 0 rfl) ?_
      refine va_get (D := (dC, dI)) (ci := 7) (v := .int 0) (C := RX7) (T := TX7) (N := 5) hx hb hG inGX7 hown hK hP 0 rfl rfl 1 (by decide) (hG _ wd_48) (fun _ h9 => h9) rfl dX7_value_46 ?_
      have hP9 := hP.sub (ws' := [(h0, .inr (7, [.int 0, .int 0, .int 0, .int 0, .int 0]))]) [0] rfl
      have hD9 := hD.sub (ws' := [(h0, .inr (7, [.int 0, .int 0, .int 0, .int 0, .int 0]))]) [0] (by decide) rfl
      have hK9 := hK.sub (tys' := []) [] rfl
      exact W.iret (v := 0) hx hb hr (fun t ht hW => ⟨⟨0, (), rfl, ⟨rfl, trivial⟩, by rw [ht]; exact hP9, va_K.moved hW.alike hK9, hD9⟩, hS.F ht⟩) hS.2.2 dX7_value_49
    · skip
      refine lv_tableIn (off := 64) (tgt := 65) hx hb dX7_value_1 (by decide) (by decide) (by decide) (by decide) ?_
      refine lv_iconst (v := 0) hx hb dX7_value_65 (by decide) ?_
      have hP9 := hP.sub (ws' := [(h0, .inr (7, [.int 0, .int 0, .int 0, .int 0, .int 0]))]) [0] rfl
      have hD9 := hD.sub (ws' := [(h0, .inr (7, [.int 0, .int 0, .int 0, .int 0, .int 0]))]) [0] (by decide) rfl
      have hK9 := hK.sub (tys' := []) [] rfl
      exact W.iret (v := 0) hx hb hr (fun t ht hW => ⟨⟨0, (), rfl, ⟨rfl, trivial⟩, by rw [ht]; exact hP9, va_K.moved hW.alike hK9, hD9⟩, hS.F ht⟩) hS.2.2 dX7_value_66
    · skip
      refine lv_tableIn (off := 49) (tgt := 50) hx hb dX7_value_1 (by decide) (by decide) (by decide) (by decide) ?_
      refine lv_aload_n hx hb dX7_value_50 rfl (lv_at hl 0 rfl) ?_
      refine va_get (D := (dC, dI)) (ci := 7) (v := .int 0) (C := RX7) (T := TX7) (N := 5) hx hb hG inGX7 hown hK hP 0 rfl rfl 2 (by decide) (hG _ wd_49) (fun _ h9 => h9) rfl dX7_value_51 ?_
      have hP9 := hP.sub (ws' := [(h0, .inr (7, [.int 0, .int 0, .int 0, .int 0, .int 0]))]) [0] rfl
      have hD9 := hD.sub (ws' := [(h0, .inr (7, [.int 0, .int 0, .int 0, .int 0, .int 0]))]) [0] (by decide) rfl
      have hK9 := hK.sub (tys' := []) [] rfl
      exact W.iret (v := 0) hx hb hr (fun t ht hW => ⟨⟨0, (), rfl, ⟨rfl, trivial⟩, by rw [ht]; exact hP9, va_K.moved hW.alike hK9, hD9⟩, hS.F ht⟩) hS.2.2 dX7_value_54
    · skip
      refine lv_tableIn (off := 54) (tgt := 55) hx hb dX7_value_1 (by decide) (by decide) (by decide) (by decide) ?_
      refine lv_aload_n hx hb dX7_value_55 rfl (lv_at hl 0 rfl) ?_
      refine va_get (D := (dC, dI)) (ci := 7) (v := .int 0) (C := RX7) (T := TX7) (N := 5) hx hb hG inGX7 hown hK hP 0 rfl rfl 3 (by decide) (hG _ wd_50) (fun _ h9 => h9) rfl dX7_value_56 ?_
      have hP9 := hP.sub (ws' := [(h0, .inr (7, [.int 0, .int 0, .int 0, .int 0, .int 0]))]) [0] rfl
      have hD9 := hD.sub (ws' := [(h0, .inr (7, [.int 0, .int 0, .int 0, .int 0, .int 0]))]) [0] (by decide) rfl
      have hK9 := hK.sub (tys' := []) [] rfl
      exact W.iret (v := 0) hx hb hr (fun t ht hW => ⟨⟨0, (), rfl, ⟨rfl, trivial⟩, by rw [ht]; exact hP9, va_K.moved hW.alike hK9, hD9⟩, hS.F ht⟩) hS.2.2 dX7_value_59
    · skip
      refine lv_tableIn (off := 59) (tgt := 60) hx hb dX7_value_1 (by decide) (by decide) (by decide) (by decide) ?_
      refine lv_aload_n hx hb dX7_value_60 rfl (lv_at hl 0 rfl) ?_
      refine va_get (D := (dC, dI)) (ci := 7) (v := .int 0) (C := RX7) (T := TX7) (N := 5) hx hb hG inGX7 hown hK hP 0 rfl rfl 4 (by decide) (hG _ wd_51) (fun _ h9 => h9) rfl dX7_value_61 ?_
      have hP9 := hP.sub (ws' := [(h0, .inr (7, [.int 0, .int 0, .int 0, .int 0, .int 0]))]) [0] rfl
      have hD9 := hD.sub (ws' := [(h0, .inr (7, [.int 0, .int 0, .int 0, .int 0, .int 0]))]) [0] (by decide) rfl
      have hK9 := hK.sub (tys' := []) [] rfl
      exact W.iret (v := 0) hx hb hr (fun t ht hW => ⟨⟨0, (), rfl, ⟨rfl, trivial⟩, by rw [ht]; exact hP9, va_K.moved hW.alike hK9, hD9⟩, hS.F ht⟩) hS.2.2 dX7_value_64
set_option maxHeartbeats 4000000 in
set_option maxRecDepth 100000 in
theorem cX7_value_4 (l : Launch) (dC : Nat → ClassId) (dI : Nat → Nat → Nat) (h0 : Nat) (sz : Nat) (x0 : Int32) (ix0 : iv x0 1 288) : Met l yX7_value (Cond.code yX7_value cX7_value 2 (some .int) :: lw_G) ({ frames := 0, cells := 0, slots := 0, locals := 0 }) (va_Pc [.ref h0, .int x0] (fun U => U.heap.size = sz ∧ va_P (dC, dI) vwCl [(h0, .inr (7, [.int 0, .int 0, .int 0, .int 0, .int 0]))] U.heap ∧ va_K (dC, dI) vwCl [] U ∧ va_D (fun _ => True) [(h0, .inr (7, [.int 0, .int 0, .int 0, .int 0, .int 0]))])) (va_Qi (fun (r : Int32) (u : Unit) => r = 0 ∧ True) (fun (u : Unit) (t : State) => va_P (dC, dI) vwCl [(h0, .inr (7, [.int 0, .int 0, .int 0, .int 0, .int 0]))] t.heap ∧ va_K (dC, dI) vwCl [] t ∧ va_D (va_A [(h0, .inr (7, [.int 0, .int 0, .int 0, .int 0, .int 0]))] sz) [(h0, .inr (7, [.int 0, .int 0, .int 0, .int 0, .int 0]))]) (va_A [(h0, .inr (7, [.int 0, .int 0, .int 0, .int 0, .int 0]))] sz)) 0 0 (va_A [(h0, .inr (7, [.int 0, .int 0, .int 0, .int 0, .int 0]))] sz) := by
  refine Met.ofW (cc := cX7_value) (maxL := 2) (ret := (some .int)) (by decide) rfl ?_
  intro p e s m args below meth c s₁ B hml hv
  obtain ⟨rfl, hsz, hP, hK, hD0⟩ := hv
  have hx := B.exec
  have hb := B.bytes
  have hr := B.returns
  have hts0 := atoms_spec (ws := Cond.code yX7_value cX7_value 2 (some .int) :: lw_G) B.pre
  have hG : ∀ w ∈ lw_G, w.before _ s = true := fun w h => hts0 w (List.mem_cons_of_mem _ h)
  have hown : s.vm.findClass RX7 = some m.cls := findClass_of_methodNamed B.named
  have hlocks := B.notSynchronized
  subst hsz
  have hD := hD0.self (sz := s.heap.size)
  generalize hAe : va_A [(h0, .inr (7, [.int 0, .int 0, .int 0, .int 0, .int 0]))] s.heap.size = A at hD ⊢
  have hA : ∀ q : Nat, s.heap.size ≤ q → A q := fun q h => by rw [← hAe]; exact Or.inr h
  have hS : va_S A s.heap s.heap [] := va_S.rf
  have hP : va_P (dC, dI) vwCl [(h0, .inr (7, [.int 0, .int 0, .int 0, .int 0, .int 0]))] s.heap := hP
  have hl := lv_entry ([.ref h0, .int x0]) (n := 2) (Nat.le_of_ble_eq_true rfl)
  rw [lg_entry_eq]
  generalize (lg_sl ([.ref h0, .int x0]) ++ List.replicate (2 - (lg_sl ([.ref h0, .int x0])).length) Slot.unset).toArray = ls at hl ⊢
  have hl : lv_has ls 2 [(0, .ref h0), (1, .int x0)] := hl
  refine lv_iload_n hx hb dX7_value_0 rfl (lv_at hl 1 rfl) ?_
  by_cases s1 : x0.toInt < 32 ∨ 37 < x0.toInt
  · skip
    refine lv_tableOut (tgt := 65) hx hb dX7_value_1 s1 (by decide) ?_
    refine lv_iconst (v := 0) hx hb dX7_value_65 (by decide) ?_
    have hP9 := hP.sub (ws' := [(h0, .inr (7, [.int 0, .int 0, .int 0, .int 0, .int 0]))]) [0] rfl
    have hD9 := hD.sub (ws' := [(h0, .inr (7, [.int 0, .int 0, .int 0, .int 0, .int 0]))]) [0] (by decide) rfl
    have hK9 := hK.sub (tys' := []) [] rfl
    exact W.iret (v := 0) hx hb hr (fun t ht hW => ⟨⟨0, (), rfl, ⟨rfl, trivial⟩, by rw [ht]; exact hP9, va_K.moved hW.alike hK9, hD9⟩, hS.F ht⟩) hS.2.2 dX7_value_66
  · skip
    have s1x : x0 = 32 ∨ x0 = 33 ∨ x0 = 34 ∨ x0 = 35 ∨ x0 = 36 ∨ x0 = 37 := by
      have := ix0
      have : x0.toInt = 32 ∨ x0.toInt = 33 ∨ x0.toInt = 34 ∨ x0.toInt = 35 ∨ x0.toInt = 36 ∨ x0.toInt = 37 := by omega
      rcases this with q | q | q | q | q | q
      · exact Or.inl (Int32.toInt_inj.mp q)
      · exact Or.inr (Or.inl (Int32.toInt_inj.mp q))
      · exact Or.inr (Or.inr (Or.inl (Int32.toInt_inj.mp q)))
      · exact Or.inr (Or.inr (Or.inr (Or.inl (Int32.toInt_inj.mp q))))
      · exact Or.inr (Or.inr (Or.inr (Or.inr (Or.inl (Int32.toInt_inj.mp q)))))
      · exact Or.inr (Or.inr (Or.inr (Or.inr (Or.inr ((Int32.toInt_inj.mp q))))))
    rcases s1x with rfl | rfl | rfl | rfl | rfl | rfl
    · skip
      refine lv_tableIn (off := 39) (tgt := 40) hx hb dX7_value_1 (by decide) (by decide) (by decide) (by decide) ?_
      refine lv_aload_n hx hb dX7_value_40 rfl (lv_at hl 0 rfl) ?_
      refine va_get (D := (dC, dI)) (ci := 7) (v := .int 0) (C := RX7) (T := TX7) (N := 5) hx hb hG inGX7 hown hK hP 0 rfl rfl 0 (by decide) (hG _ wd_47) (fun _ h9 => h9) rfl dX7_value_41 ?_
      have hP9 := hP.sub (ws' := [(h0, .inr (7, [.int 0, .int 0, .int 0, .int 0, .int 0]))]) [0] rfl
      have hD9 := hD.sub (ws' := [(h0, .inr (7, [.int 0, .int 0, .int 0, .int 0, .int 0]))]) [0] (by decide) rfl
      have hK9 := hK.sub (tys' := []) [] rfl
      exact W.iret (v := 0) hx hb hr (fun t ht hW => ⟨⟨0, (), rfl, ⟨rfl, trivial⟩, by rw [ht]; exact hP9, va_K.moved hW.alike hK9, hD9⟩, hS.F ht⟩) hS.2.2 dX7_value_44
    · skip
      refine lv_tableIn (off := 44) (tgt := 45) hx hb dX7_value_1 (by decide) (by decide) (by decide) (by decide) ?_
      refine lv_aload_n hx hb dX7_value_45 rfl (lv_at hl 0 rfl) ?_
      refine va_get (D := (dC, dI)) (ci := 7) (v := .int 0) (C := RX7) (T := TX7) (N := 5) hx hb hG inGX7 hown hK hP 0 rfl rfl 1 (by decide) (hG _ wd_48) (fun _ h9 => h9) rfl dX7_value_46 ?_
      have hP9 := hP.sub (ws' := [(h0, .inr (7, [.int 0, .int 0, .int 0, .int 0, .int 0]))]) [0] rfl
      have hD9 := hD.sub (ws' := [(h0, .inr (7, [.int 0, .int 0, .int 0, .int 0, .int 0]))]) [0] (by decide) rfl
      have hK9 := hK.sub (tys' := []) [] rfl
      exact W.iret (v := 0) hx hb hr (fun t ht hW => ⟨⟨0, (), rfl, ⟨rfl, trivial⟩, by rw [ht]; exact hP9, va_K.moved hW.alike hK9, hD9⟩, hS.F ht⟩) hS.2.2 dX7_value_49
    · skip
      refine lv_tableIn (off := 64) (tgt := 65) hx hb dX7_value_1 (by decide) (by decide) (by decide) (by decide) ?_
      refine lv_iconst (v := 0) hx hb dX7_value_65 (by decide) ?_
      have hP9 := hP.sub (ws' := [(h0, .inr (7, [.int 0, .int 0, .int 0, .int 0, .int 0]))]) [0] rfl
      have hD9 := hD.sub (ws' := [(h0, .inr (7, [.int 0, .int 0, .int 0, .int 0, .int 0]))]) [0] (by decide) rfl
      have hK9 := hK.sub (tys' := []) [] rfl
      exact W.iret (v := 0) hx hb hr (fun t ht hW => ⟨⟨0, (), rfl, ⟨rfl, trivial⟩, by rw [ht]; exact hP9, va_K.moved hW.alike hK9, hD9⟩, hS.F ht⟩) hS.2.2 dX7_value_66
    · skip
      refine lv_tableIn (off := 49) (tgt := 50) hx hb dX7_value_1 (by decide) (by decide) (by decide) (by decide) ?_
      refine lv_aload_n hx hb dX7_value_50 rfl (lv_at hl 0 rfl) ?_
      refine va_get (D := (dC, dI)) (ci := 7) (v := .int 0) (C := RX7) (T := TX7) (N := 5) hx hb hG inGX7 hown hK hP 0 rfl rfl 2 (by decide) (hG _ wd_49) (fun _ h9 => h9) rfl dX7_value_51 ?_
      have hP9 := hP.sub (ws' := [(h0, .inr (7, [.int 0, .int 0, .int 0, .int 0, .int 0]))]) [0] rfl
      have hD9 := hD.sub (ws' := [(h0, .inr (7, [.int 0, .int 0, .int 0, .int 0, .int 0]))]) [0] (by decide) rfl
      have hK9 := hK.sub (tys' := []) [] rfl
      exact W.iret (v := 0) hx hb hr (fun t ht hW => ⟨⟨0, (), rfl, ⟨rfl, trivial⟩, by rw [ht]; exact hP9, va_K.moved hW.alike hK9, hD9⟩, hS.F ht⟩) hS.2.2 dX7_value_54
    · skip
      refine lv_tableIn (off := 54) (tgt := 55) hx hb dX7_value_1 (by decide) (by decide) (by decide) (by decide) ?_
      refine lv_aload_n hx hb dX7_value_55 rfl (lv_at hl 0 rfl) ?_
      refine va_get (D := (dC, dI)) (ci := 7) (v := .int 0) (C := RX7) (T := TX7) (N := 5) hx hb hG inGX7 hown hK hP 0 rfl rfl 3 (by decide) (hG _ wd_50) (fun _ h9 => h9) rfl dX7_value_56 ?_
      have hP9 := hP.sub (ws' := [(h0, .inr (7, [.int 0, .int 0, .int 0, .int 0, .int 0]))]) [0] rfl
      have hD9 := hD.sub (ws' := [(h0, .inr (7, [.int 0, .int 0, .int 0, .int 0, .int 0]))]) [0] (by decide) rfl
      have hK9 := hK.sub (tys' := []) [] rfl
      exact W.iret (v := 0) hx hb hr (fun t ht hW => ⟨⟨0, (), rfl, ⟨rfl, trivial⟩, by rw [ht]; exact hP9, va_K.moved hW.alike hK9, hD9⟩, hS.F ht⟩) hS.2.2 dX7_value_59
    · skip
      refine lv_tableIn (off := 59) (tgt := 60) hx hb dX7_value_1 (by decide) (by decide) (by decide) (by decide) ?_
      refine lv_aload_n hx hb dX7_value_60 rfl (lv_at hl 0 rfl) ?_
      refine va_get (D := (dC, dI)) (ci := 7) (v := .int 0) (C := RX7) (T := TX7) (N := 5) hx hb hG inGX7 hown hK hP 0 rfl rfl 4 (by decide) (hG _ wd_51) (fun _ h9 => h9) rfl dX7_value_61 ?_
      have hP9 := hP.sub (ws' := [(h0, .inr (7, [.int 0, .int 0, .int 0, .int 0, .int 0]))]) [0] rfl
      have hD9 := hD.sub (ws' := [(h0, .inr (7, [.int 0, .int 0, .int 0, .int 0, .int 0]))]) [0] (by decide) rfl
      have hK9 := hK.sub (tys' := []) [] rfl
      exact W.iret (v := 0) hx hb hr (fun t ht hW => ⟨⟨0, (), rfl, ⟨rfl, trivial⟩, by rw [ht]; exact hP9, va_K.moved hW.alike hK9, hD9⟩, hS.F ht⟩) hS.2.2 dX7_value_64
set_option maxHeartbeats 4000000 in
set_option maxRecDepth 100000 in
theorem cX1_thingWord_2 (l : Launch) (dC : Nat → ClassId) (dI : Nat → Nat → Nat) (h0 h1 h2 h3 h4 h5 h6 : Nat) (y0 y1 : ClassId) (sz : Nat) (x0 : Int32) (ix0 : iv x0 0 511) : Met l yX1_thingWord (Cond.code yX1_thingWord cX1_thingWord 2 (some .int) :: lw_G) ({ frames := 1, cells := 0, slots := 0, locals := 21 }) (va_Pc [.ref h0, .int x0] (fun U => U.heap.size = sz ∧ va_P (dC, dI) vwCl [(h0, .inr (1, [.ref h1, .ref h2, .ref h3, .ref h4])), (h4, .inr (9, [.ref h5, .ref h6, .int 0, .int 0, .int 0, .int 0])), (h6, .inl (y0, 3, .inl (fun _ => 0))), (h5, .inl (y1, 3, .inl (fun _ => 0))), (h3, .inr (5, [.int 304, .int 0, .int 0, .int 0, .int 0, .int 0])), (h2, .inr (7, [.int 0, .int 0, .int 0, .int 0, .int 0]))] U.heap ∧ va_K (dC, dI) vwCl [(y0, .int), (y1, .int)] U ∧ va_D (fun _ => True) [(h0, .inr (1, [.ref h1, .ref h2, .ref h3, .ref h4])), (h4, .inr (9, [.ref h5, .ref h6, .int 0, .int 0, .int 0, .int 0])), (h6, .inl (y0, 3, .inl (fun _ => 0))), (h5, .inl (y1, 3, .inl (fun _ => 0))), (h3, .inr (5, [.int 304, .int 0, .int 0, .int 0, .int 0, .int 0])), (h2, .inr (7, [.int 0, .int 0, .int 0, .int 0, .int 0]))])) (va_Qi (fun (r : Int32) (u : Unit) => r = 0 ∧ True) (fun (u : Unit) (t : State) => va_P (dC, dI) vwCl [(h0, .inr (1, [.ref h1, .ref h2, .ref h3, .ref h4])), (h4, .inr (9, [.ref h5, .ref h6, .int 0, .int 0, .int 0, .int 0])), (h6, .inl (y0, 3, .inl (fun _ => 0))), (h5, .inl (y1, 3, .inl (fun _ => 0))), (h3, .inr (5, [.int 304, .int 0, .int 0, .int 0, .int 0, .int 0])), (h2, .inr (7, [.int 0, .int 0, .int 0, .int 0, .int 0]))] t.heap ∧ va_K (dC, dI) vwCl [(y0, .int), (y1, .int)] t ∧ va_D (va_A [(h0, .inr (1, [.ref h1, .ref h2, .ref h3, .ref h4])), (h4, .inr (9, [.ref h5, .ref h6, .int 0, .int 0, .int 0, .int 0])), (h6, .inl (y0, 3, .inl (fun _ => 0))), (h5, .inl (y1, 3, .inl (fun _ => 0))), (h3, .inr (5, [.int 304, .int 0, .int 0, .int 0, .int 0, .int 0])), (h2, .inr (7, [.int 0, .int 0, .int 0, .int 0, .int 0]))] sz) [(h0, .inr (1, [.ref h1, .ref h2, .ref h3, .ref h4])), (h4, .inr (9, [.ref h5, .ref h6, .int 0, .int 0, .int 0, .int 0])), (h6, .inl (y0, 3, .inl (fun _ => 0))), (h5, .inl (y1, 3, .inl (fun _ => 0))), (h3, .inr (5, [.int 304, .int 0, .int 0, .int 0, .int 0, .int 0])), (h2, .inr (7, [.int 0, .int 0, .int 0, .int 0, .int 0]))]) (va_A [(h0, .inr (1, [.ref h1, .ref h2, .ref h3, .ref h4])), (h4, .inr (9, [.ref h5, .ref h6, .int 0, .int 0, .int 0, .int 0])), (h6, .inl (y0, 3, .inl (fun _ => 0))), (h5, .inl (y1, 3, .inl (fun _ => 0))), (h3, .inr (5, [.int 304, .int 0, .int 0, .int 0, .int 0, .int 0])), (h2, .inr (7, [.int 0, .int 0, .int 0, .int 0, .int 0]))] sz)) 0 0 (va_A [(h0, .inr (1, [.ref h1, .ref h2, .ref h3, .ref h4])), (h4, .inr (9, [.ref h5, .ref h6, .int 0, .int 0, .int 0, .int 0])), (h6, .inl (y0, 3, .inl (fun _ => 0))), (h5, .inl (y1, 3, .inl (fun _ => 0))), (h3, .inr (5, [.int 304, .int 0, .int 0, .int 0, .int 0, .int 0])), (h2, .inr (7, [.int 0, .int 0, .int 0, .int 0, .int 0]))] sz) := by
  refine Met.ofW (cc := cX1_thingWord) (maxL := 2) (ret := (some .int)) (by decide) rfl ?_
  intro p e s m args below meth c s₁ B hml hv
  obtain ⟨rfl, hsz, hP, hK, hD0⟩ := hv
  have hx := B.exec
  have hb := B.bytes
  have hr := B.returns
  have hts0 := atoms_spec (ws := Cond.code yX1_thingWord cX1_thingWord 2 (some .int) :: lw_G) B.pre
  have hG : ∀ w ∈ lw_G, w.before _ s = true := fun w h => hts0 w (List.mem_cons_of_mem _ h)
  have hown : s.vm.findClass RX1 = some m.cls := findClass_of_methodNamed B.named
  have hlocks := B.notSynchronized
  subst hsz
  have hD := hD0.self (sz := s.heap.size)
  generalize hAe : va_A [(h0, .inr (1, [.ref h1, .ref h2, .ref h3, .ref h4])), (h4, .inr (9, [.ref h5, .ref h6, .int 0, .int 0, .int 0, .int 0])), (h6, .inl (y0, 3, .inl (fun _ => 0))), (h5, .inl (y1, 3, .inl (fun _ => 0))), (h3, .inr (5, [.int 304, .int 0, .int 0, .int 0, .int 0, .int 0])), (h2, .inr (7, [.int 0, .int 0, .int 0, .int 0, .int 0]))] s.heap.size = A at hD ⊢
  have hA : ∀ q : Nat, s.heap.size ≤ q → A q := fun q h => by rw [← hAe]; exact Or.inr h
  have hS : va_S A s.heap s.heap [] := va_S.rf
  have hP : va_P (dC, dI) vwCl [(h0, .inr (1, [.ref h1, .ref h2, .ref h3, .ref h4])), (h4, .inr (9, [.ref h5, .ref h6, .int 0, .int 0, .int 0, .int 0])), (h6, .inl (y0, 3, .inl (fun _ => 0))), (h5, .inl (y1, 3, .inl (fun _ => 0))), (h3, .inr (5, [.int 304, .int 0, .int 0, .int 0, .int 0, .int 0])), (h2, .inr (7, [.int 0, .int 0, .int 0, .int 0, .int 0]))] s.heap := hP
  have hl := lv_entry ([.ref h0, .int x0]) (n := 2) (Nat.le_of_ble_eq_true rfl)
  rw [lg_entry_eq]
  generalize (lg_sl ([.ref h0, .int x0]) ++ List.replicate (2 - (lg_sl ([.ref h0, .int x0])).length) Slot.unset).toArray = ls at hl ⊢
  have hl : lv_has ls 2 [(0, .ref h0), (1, .int x0)] := hl
  refine lv_iload_n hx hb dX1_thingWord_0 rfl (lv_at hl 1 rfl) ?_
  refine lv_sipush (v := 288) hx hb dX1_thingWord_1 (by decide) ?_
  refine lv_icmp_ge (tgt := 30) hx hb dX1_thingWord_4 (by decide) (fun c1 => ?_) (fun c1 => ?_)
  · skip
    have j2 : iv x0 288 511 := iv_leR (by decide : iv 288 288 288) ix0 c1 (by decide)
    refine lv_iload_n hx hb dX1_thingWord_30 rfl (lv_at hl 1 rfl) ?_
    refine lv_sipush (v := 302) hx hb dX1_thingWord_31 (by decide) ?_
    refine lv_icmp_ne (tgt := 45) hx hb dX1_thingWord_34 (by decide) (fun c3 => ?_) (fun c3 => ?_)
    · skip
      refine lv_iload_n hx hb dX1_thingWord_45 rfl (lv_at hl 1 rfl) ?_
      refine lv_sipush (v := 304) hx hb dX1_thingWord_46 (by decide) ?_
      refine lv_icmp_lt (tgt := 68) hx hb dX1_thingWord_49 (by decide) (fun c4 => ?_) (fun c4 => ?_)
      · skip
        have j5 : iv x0 288 303 := iv_ltL j2 (by decide : iv 304 304 304) c4 (by decide)
        refine lv_aload_n hx hb dX1_thingWord_68 rfl (lv_at hl 0 rfl) ?_
        refine va_get (D := (dC, dI)) (ci := 1) (v := .ref h4) (C := RX1) (T := TX1) (N := 4) hx hb hG inGX1 hown hK hP 0 rfl rfl 3 (by decide) (hG _ wd_117) (fun _ h9 => h9) rfl dX1_thingWord_69 ?_
        refine lv_iload_n hx hb dX1_thingWord_72 rfl (lv_at hl 1 rfl) ?_
        have hPc := hP.sub (ws' := [(h4, .inr (9, [.ref h5, .ref h6, .int 0, .int 0, .int 0, .int 0]))]) [1] rfl
        have hDc := hD.sub (ws' := [(h4, .inr (9, [.ref h5, .ref h6, .int 0, .int 0, .int 0, .int 0]))]) [1] (by decide) rfl
        have hKc := hK.sub (tys' := []) [] rfl
        have hFc := va_free (wc := [(h4, .inr (9, [.ref h5, .ref h6, .int 0, .int 0, .int 0, .int 0]))]) hD hS hA [1] rfl
        refine va_calli (va_runV (As := [.int x0]) (rest := []) ⟨hx, hb, hml, hown, hG⟩ (cX9_word_1 l dC dI h4 h5 h6 s.heap.size x0 j5) (cwV 1 hG (gV wd_736 wd_737 wd_738 wd_5 wd_739) rfl rfl rfl (by decide +kernel) ⟨Nat.le_of_ble_eq_true rfl, Nat.le_of_ble_eq_true rfl⟩) ⟨fun a U g mk q => by obtain ⟨q0, q1, qP, qK, qD⟩ := q; exact ⟨q0, q1, qP, va_K.moved (u := U) (U := U.calling g mk a) (Vm.Alike.refl U.vm) qK, qD⟩, va_recv hKc hPc (ci := 9) (q0 := 0) rfl rfl, fun U hU hW => ⟨rfl, by rw [hU], by rw [hU]; exact hPc, va_K.moved hW.alike hKc, hDc.weaken (fun _ _ _ _ => trivial)⟩⟩ rfl rfl hl.1 rfl (lv_room (Nat.le_of_ble_eq_true rfl)) dX1_thingWord_73 ⟨by decide, by decide⟩) hS (fun q _ h => hFc q h) hFc (fun r6 u7 t H1 locs ht hvm hw hB hz1 hk1 hS => ?_)
        have hw : r6 = 0 ∧ True := hw
        obtain ⟨er6, -⟩ := hw
        obtain ⟨hP1, hK1, hD1⟩ := hB
        rw [ht] at hP1
        have hK1 := va_K.moved hvm.symm hK1
        obtain ⟨hP, hD⟩ := va_join (wr := [(h0, .inr (1, [.ref h1, .ref h2, .ref h3, .ref h4])), (h6, .inl (y0, 3, .inl (fun _ => 0))), (h5, .inl (y1, 3, .inl (fun _ => 0))), (h3, .inr (5, [.int 304, .int 0, .int 0, .int 0, .int 0, .int 0])), (h2, .inr (7, [.int 0, .int 0, .int 0, .int 0, .int 0]))]) (w1 := [(h4, .inr (9, [.ref h5, .ref h6, .int 0, .int 0, .int 0, .int 0]))]) hP hD [1] [0, 2, 3, 4, 5] rfl rfl (by decide) (by decide) hk1 hFc hP1 hD1
        have hK := (hK.sub (tys' := [(y0, .int), (y1, .int)]) [0, 1] rfl).app hK1
        generalize H1 = H at hP hS ⊢
        have hP : va_P (dC, dI) vwCl [(h0, .inr (1, [.ref h1, .ref h2, .ref h3, .ref h4])), (h6, .inl (y0, 3, .inl (fun _ => 0))), (h5, .inl (y1, 3, .inl (fun _ => 0))), (h3, .inr (5, [.int 304, .int 0, .int 0, .int 0, .int 0, .int 0])), (h2, .inr (7, [.int 0, .int 0, .int 0, .int 0, .int 0])), (h4, .inr (9, [.ref h5, .ref h6, .int 0, .int 0, .int 0, .int 0]))] H := hP
        have hD : va_D A [(h0, .inr (1, [.ref h1, .ref h2, .ref h3, .ref h4])), (h6, .inl (y0, 3, .inl (fun _ => 0))), (h5, .inl (y1, 3, .inl (fun _ => 0))), (h3, .inr (5, [.int 304, .int 0, .int 0, .int 0, .int 0, .int 0])), (h2, .inr (7, [.int 0, .int 0, .int 0, .int 0, .int 0])), (h4, .inr (9, [.ref h5, .ref h6, .int 0, .int 0, .int 0, .int 0]))] := hD
        have hK : va_K (dC, dI) vwCl [(y0, .int), (y1, .int)] s := hK
        subst er6
        have hP9 := hP.sub (ws' := [(h0, .inr (1, [.ref h1, .ref h2, .ref h3, .ref h4])), (h4, .inr (9, [.ref h5, .ref h6, .int 0, .int 0, .int 0, .int 0])), (h6, .inl (y0, 3, .inl (fun _ => 0))), (h5, .inl (y1, 3, .inl (fun _ => 0))), (h3, .inr (5, [.int 304, .int 0, .int 0, .int 0, .int 0, .int 0])), (h2, .inr (7, [.int 0, .int 0, .int 0, .int 0, .int 0]))]) [0, 5, 1, 2, 3, 4] rfl
        have hD9 := hD.sub (ws' := [(h0, .inr (1, [.ref h1, .ref h2, .ref h3, .ref h4])), (h4, .inr (9, [.ref h5, .ref h6, .int 0, .int 0, .int 0, .int 0])), (h6, .inl (y0, 3, .inl (fun _ => 0))), (h5, .inl (y1, 3, .inl (fun _ => 0))), (h3, .inr (5, [.int 304, .int 0, .int 0, .int 0, .int 0, .int 0])), (h2, .inr (7, [.int 0, .int 0, .int 0, .int 0, .int 0]))]) [0, 5, 1, 2, 3, 4] (by decide) rfl
        have hK9 := hK.sub (tys' := [(y0, .int), (y1, .int)]) [0, 1] rfl
        exact W.iret (v := 0) hx hb hr (fun t ht hW => ⟨⟨0, (), rfl, ⟨rfl, trivial⟩, by rw [ht]; exact hP9, va_K.moved hW.alike hK9, hD9⟩, hS.F ht⟩) hS.2.2 dX1_thingWord_76
      · skip
        have j8 : iv x0 304 511 := iv_nltL j2 (by decide : iv 304 304 304) c4 (by decide)
        refine lv_iload_n hx hb dX1_thingWord_52 rfl (lv_at hl 1 rfl) ?_
        refine lv_sipush (v := 318) hx hb dX1_thingWord_53 (by decide) ?_
        refine lv_icmp_gt (tgt := 68) hx hb dX1_thingWord_56 (by decide) (fun c9 => ?_) (fun c9 => ?_)
        · skip
          have j10 : iv x0 319 511 := iv_ltR (by decide : iv 318 318 318) j8 c9 (by decide)
          refine lv_aload_n hx hb dX1_thingWord_68 rfl (lv_at hl 0 rfl) ?_
          refine va_get (D := (dC, dI)) (ci := 1) (v := .ref h4) (C := RX1) (T := TX1) (N := 4) hx hb hG inGX1 hown hK hP 0 rfl rfl 3 (by decide) (hG _ wd_117) (fun _ h9 => h9) rfl dX1_thingWord_69 ?_
          refine lv_iload_n hx hb dX1_thingWord_72 rfl (lv_at hl 1 rfl) ?_
          have hPc := hP.sub (ws' := [(h4, .inr (9, [.ref h5, .ref h6, .int 0, .int 0, .int 0, .int 0])), (h6, .inl (y0, 3, .inl (fun _ => 0))), (h5, .inl (y1, 3, .inl (fun _ => 0)))]) [1, 2, 3] rfl
          have hDc := hD.sub (ws' := [(h4, .inr (9, [.ref h5, .ref h6, .int 0, .int 0, .int 0, .int 0])), (h6, .inl (y0, 3, .inl (fun _ => 0))), (h5, .inl (y1, 3, .inl (fun _ => 0)))]) [1, 2, 3] (by decide) rfl
          have hKc := hK.sub (tys' := [(y0, .int), (y1, .int)]) [0, 1] rfl
          have hFc := va_free (wc := [(h4, .inr (9, [.ref h5, .ref h6, .int 0, .int 0, .int 0, .int 0])), (h6, .inl (y0, 3, .inl (fun _ => 0))), (h5, .inl (y1, 3, .inl (fun _ => 0)))]) hD hS hA [1, 2, 3] rfl
          refine va_calli (va_runV (As := [.int x0]) (rest := []) ⟨hx, hb, hml, hown, hG⟩ (cX9_word_2 l dC dI h4 h5 h6 y0 y1 s.heap.size x0 j10) (cwV 1 hG (gV wd_736 wd_737 wd_738 wd_5 wd_739) rfl rfl rfl (by decide +kernel) ⟨Nat.le_of_ble_eq_true rfl, Nat.le_of_ble_eq_true rfl⟩) ⟨fun a U g mk q => by obtain ⟨q0, q1, qP, qK, qD⟩ := q; exact ⟨q0, q1, qP, va_K.moved (u := U) (U := U.calling g mk a) (Vm.Alike.refl U.vm) qK, qD⟩, va_recv hKc hPc (ci := 9) (q0 := 0) rfl rfl, fun U hU hW => ⟨rfl, by rw [hU], by rw [hU]; exact hPc, va_K.moved hW.alike hKc, hDc.weaken (fun _ _ _ _ => trivial)⟩⟩ rfl rfl hl.1 rfl (lv_room (Nat.le_of_ble_eq_true rfl)) dX1_thingWord_73 ⟨by decide, by decide⟩) hS (fun q _ h => hFc q h) hFc (fun r11 u12 t H1 locs ht hvm hw hB hz1 hk1 hS => ?_)
          have hw : r11 = 0 ∧ True := hw
          obtain ⟨er11, -⟩ := hw
          obtain ⟨hP1, hK1, hD1⟩ := hB
          rw [ht] at hP1
          have hK1 := va_K.moved hvm.symm hK1
          obtain ⟨hP, hD⟩ := va_join (wr := [(h0, .inr (1, [.ref h1, .ref h2, .ref h3, .ref h4])), (h3, .inr (5, [.int 304, .int 0, .int 0, .int 0, .int 0, .int 0])), (h2, .inr (7, [.int 0, .int 0, .int 0, .int 0, .int 0]))]) (w1 := [(h4, .inr (9, [.ref h5, .ref h6, .int 0, .int 0, .int 0, .int 0])), (h6, .inl (y0, 3, .inl (fun _ => 0))), (h5, .inl (y1, 3, .inl (fun _ => 0)))]) hP hD [1, 2, 3] [0, 4, 5] rfl rfl (by decide) (by decide) hk1 hFc hP1 hD1
          have hK := (hK.sub (tys' := []) [] rfl).app hK1
          generalize H1 = H at hP hS ⊢
          have hP : va_P (dC, dI) vwCl [(h0, .inr (1, [.ref h1, .ref h2, .ref h3, .ref h4])), (h3, .inr (5, [.int 304, .int 0, .int 0, .int 0, .int 0, .int 0])), (h2, .inr (7, [.int 0, .int 0, .int 0, .int 0, .int 0])), (h4, .inr (9, [.ref h5, .ref h6, .int 0, .int 0, .int 0, .int 0])), (h6, .inl (y0, 3, .inl (fun _ => 0))), (h5, .inl (y1, 3, .inl (fun _ => 0)))] H := hP
          have hD : va_D A [(h0, .inr (1, [.ref h1, .ref h2, .ref h3, .ref h4])), (h3, .inr (5, [.int 304, .int 0, .int 0, .int 0, .int 0, .int 0])), (h2, .inr (7, [.int 0, .int 0, .int 0, .int 0, .int 0])), (h4, .inr (9, [.ref h5, .ref h6, .int 0, .int 0, .int 0, .int 0])), (h6, .inl (y0, 3, .inl (fun _ => 0))), (h5, .inl (y1, 3, .inl (fun _ => 0)))] := hD
          have hK : va_K (dC, dI) vwCl [(y0, .int), (y1, .int)] s := hK
          subst er11
          have hP9 := hP.sub (ws' := [(h0, .inr (1, [.ref h1, .ref h2, .ref h3, .ref h4])), (h4, .inr (9, [.ref h5, .ref h6, .int 0, .int 0, .int 0, .int 0])), (h6, .inl (y0, 3, .inl (fun _ => 0))), (h5, .inl (y1, 3, .inl (fun _ => 0))), (h3, .inr (5, [.int 304, .int 0, .int 0, .int 0, .int 0, .int 0])), (h2, .inr (7, [.int 0, .int 0, .int 0, .int 0, .int 0]))]) [0, 3, 4, 5, 1, 2] rfl
          have hD9 := hD.sub (ws' := [(h0, .inr (1, [.ref h1, .ref h2, .ref h3, .ref h4])), (h4, .inr (9, [.ref h5, .ref h6, .int 0, .int 0, .int 0, .int 0])), (h6, .inl (y0, 3, .inl (fun _ => 0))), (h5, .inl (y1, 3, .inl (fun _ => 0))), (h3, .inr (5, [.int 304, .int 0, .int 0, .int 0, .int 0, .int 0])), (h2, .inr (7, [.int 0, .int 0, .int 0, .int 0, .int 0]))]) [0, 3, 4, 5, 1, 2] (by decide) rfl
          have hK9 := hK.sub (tys' := [(y0, .int), (y1, .int)]) [0, 1] rfl
          exact W.iret (v := 0) hx hb hr (fun t ht hW => ⟨⟨0, (), rfl, ⟨rfl, trivial⟩, by rw [ht]; exact hP9, va_K.moved hW.alike hK9, hD9⟩, hS.F ht⟩) hS.2.2 dX1_thingWord_76
        · skip
          have j13 : iv x0 304 318 := iv_nltR (by decide : iv 318 318 318) j8 c9 (by decide)
          refine lv_aload_n hx hb dX1_thingWord_59 rfl (lv_at hl 0 rfl) ?_
          refine va_get (D := (dC, dI)) (ci := 1) (v := .ref h3) (C := RX1) (T := TX1) (N := 4) hx hb hG inGX1 hown hK hP 0 rfl rfl 2 (by decide) (hG _ wd_116) (fun _ h9 => h9) rfl dX1_thingWord_60 ?_
          refine lv_iload_n hx hb dX1_thingWord_63 rfl (lv_at hl 1 rfl) ?_
          have hPc := hP.sub (ws' := [(h3, .inr (5, [.int 304, .int 0, .int 0, .int 0, .int 0, .int 0]))]) [4] rfl
          have hDc := hD.sub (ws' := [(h3, .inr (5, [.int 304, .int 0, .int 0, .int 0, .int 0, .int 0]))]) [4] (by decide) rfl
          have hKc := hK.sub (tys' := []) [] rfl
          have hFc := va_free (wc := [(h3, .inr (5, [.int 304, .int 0, .int 0, .int 0, .int 0, .int 0]))]) hD hS hA [4] rfl
          refine va_calli (va_runV (As := [.int x0]) (rest := []) ⟨hx, hb, hml, hown, hG⟩ (cX5_word_1 l dC dI h3 s.heap.size x0 j13) (cwV 1 hG (gV wd_732 wd_733 wd_734 wd_4 wd_735) rfl rfl rfl (by decide +kernel) ⟨Nat.le_of_ble_eq_true rfl, Nat.le_of_ble_eq_true rfl⟩) ⟨fun a U g mk q => by obtain ⟨q0, q1, qP, qK, qD⟩ := q; exact ⟨q0, q1, qP, va_K.moved (u := U) (U := U.calling g mk a) (Vm.Alike.refl U.vm) qK, qD⟩, va_recv hKc hPc (ci := 5) (q0 := 0) rfl rfl, fun U hU hW => ⟨rfl, by rw [hU], by rw [hU]; exact hPc, va_K.moved hW.alike hKc, hDc.weaken (fun _ _ _ _ => trivial)⟩⟩ rfl rfl hl.1 rfl (lv_room (Nat.le_of_ble_eq_true rfl)) dX1_thingWord_64 ⟨by decide, by decide⟩) hS (fun q _ h => hFc q h) hFc (fun r14 u15 t H1 locs ht hvm hw hB hz1 hk1 hS => ?_)
          have hw : r14 = 0 ∧ True := hw
          obtain ⟨er14, -⟩ := hw
          obtain ⟨hP1, hK1, hD1⟩ := hB
          rw [ht] at hP1
          have hK1 := va_K.moved hvm.symm hK1
          obtain ⟨hP, hD⟩ := va_join (wr := [(h0, .inr (1, [.ref h1, .ref h2, .ref h3, .ref h4])), (h4, .inr (9, [.ref h5, .ref h6, .int 0, .int 0, .int 0, .int 0])), (h6, .inl (y0, 3, .inl (fun _ => 0))), (h5, .inl (y1, 3, .inl (fun _ => 0))), (h2, .inr (7, [.int 0, .int 0, .int 0, .int 0, .int 0]))]) (w1 := [(h3, .inr (5, [.int 304, .int 0, .int 0, .int 0, .int 0, .int 0]))]) hP hD [4] [0, 1, 2, 3, 5] rfl rfl (by decide) (by decide) hk1 hFc hP1 hD1
          have hK := (hK.sub (tys' := [(y0, .int), (y1, .int)]) [0, 1] rfl).app hK1
          generalize H1 = H at hP hS ⊢
          have hP : va_P (dC, dI) vwCl [(h0, .inr (1, [.ref h1, .ref h2, .ref h3, .ref h4])), (h4, .inr (9, [.ref h5, .ref h6, .int 0, .int 0, .int 0, .int 0])), (h6, .inl (y0, 3, .inl (fun _ => 0))), (h5, .inl (y1, 3, .inl (fun _ => 0))), (h2, .inr (7, [.int 0, .int 0, .int 0, .int 0, .int 0])), (h3, .inr (5, [.int 304, .int 0, .int 0, .int 0, .int 0, .int 0]))] H := hP
          have hD : va_D A [(h0, .inr (1, [.ref h1, .ref h2, .ref h3, .ref h4])), (h4, .inr (9, [.ref h5, .ref h6, .int 0, .int 0, .int 0, .int 0])), (h6, .inl (y0, 3, .inl (fun _ => 0))), (h5, .inl (y1, 3, .inl (fun _ => 0))), (h2, .inr (7, [.int 0, .int 0, .int 0, .int 0, .int 0])), (h3, .inr (5, [.int 304, .int 0, .int 0, .int 0, .int 0, .int 0]))] := hD
          have hK : va_K (dC, dI) vwCl [(y0, .int), (y1, .int)] s := hK
          subst er14
          have hP9 := hP.sub (ws' := [(h0, .inr (1, [.ref h1, .ref h2, .ref h3, .ref h4])), (h4, .inr (9, [.ref h5, .ref h6, .int 0, .int 0, .int 0, .int 0])), (h6, .inl (y0, 3, .inl (fun _ => 0))), (h5, .inl (y1, 3, .inl (fun _ => 0))), (h3, .inr (5, [.int 304, .int 0, .int 0, .int 0, .int 0, .int 0])), (h2, .inr (7, [.int 0, .int 0, .int 0, .int 0, .int 0]))]) [0, 1, 2, 3, 5, 4] rfl
          have hD9 := hD.sub (ws' := [(h0, .inr (1, [.ref h1, .ref h2, .ref h3, .ref h4])), (h4, .inr (9, [.ref h5, .ref h6, .int 0, .int 0, .int 0, .int 0])), (h6, .inl (y0, 3, .inl (fun _ => 0))), (h5, .inl (y1, 3, .inl (fun _ => 0))), (h3, .inr (5, [.int 304, .int 0, .int 0, .int 0, .int 0, .int 0])), (h2, .inr (7, [.int 0, .int 0, .int 0, .int 0, .int 0]))]) [0, 1, 2, 3, 5, 4] (by decide) rfl
          have hK9 := hK.sub (tys' := [(y0, .int), (y1, .int)]) [0, 1] rfl
          exact W.iret (v := 0) hx hb hr (fun t ht hW => ⟨⟨0, (), rfl, ⟨rfl, trivial⟩, by rw [ht]; exact hP9, va_K.moved hW.alike hK9, hD9⟩, hS.F ht⟩) hS.2.2 dX1_thingWord_67
    · skip
      subst c3
      refine lv_aload_n hx hb dX1_thingWord_37 rfl (lv_at hl 0 rfl) ?_
      refine va_get (D := (dC, dI)) (ci := 1) (v := .ref h4) (C := RX1) (T := TX1) (N := 4) hx hb hG inGX1 hown hK hP 0 rfl rfl 3 (by decide) (hG _ wd_117) (fun _ h9 => h9) rfl dX1_thingWord_38 ?_
      have hPc := hP.sub (ws' := [(h4, .inr (9, [.ref h5, .ref h6, .int 0, .int 0, .int 0, .int 0])), (h5, .inl (y1, 3, .inl (fun _ => 0)))]) [1, 3] rfl
      have hDc := hD.sub (ws' := [(h4, .inr (9, [.ref h5, .ref h6, .int 0, .int 0, .int 0, .int 0])), (h5, .inl (y1, 3, .inl (fun _ => 0)))]) [1, 3] (by decide) rfl
      have hKc := hK.sub (tys' := [(y1, .int)]) [1] rfl
      have hFc := va_free (wc := [(h4, .inr (9, [.ref h5, .ref h6, .int 0, .int 0, .int 0, .int 0])), (h5, .inl (y1, 3, .inl (fun _ => 0)))]) hD hS hA [1, 3] rfl
      refine va_calli (va_runV (As := []) (rest := []) ⟨hx, hb, hml, hown, hG⟩ (cX9_vector_1 l dC dI h4 h5 h6 y1 s.heap.size) (cwV 0 hG (gV wd_728 wd_729 wd_730 wd_5 wd_731) rfl rfl rfl (by decide +kernel) ⟨Nat.le_of_ble_eq_true rfl, Nat.le_of_ble_eq_true rfl⟩) ⟨fun a U g mk q => by obtain ⟨q0, q1, qP, qK, qD⟩ := q; exact ⟨q0, q1, qP, va_K.moved (u := U) (U := U.calling g mk a) (Vm.Alike.refl U.vm) qK, qD⟩, va_recv hKc hPc (ci := 9) (q0 := 0) rfl rfl, fun U hU hW => ⟨rfl, by rw [hU], by rw [hU]; exact hPc, va_K.moved hW.alike hKc, hDc.weaken (fun _ _ _ _ => trivial)⟩⟩ rfl rfl hl.1 rfl (lv_room (Nat.le_of_ble_eq_true rfl)) dX1_thingWord_41 ⟨by decide, by decide⟩) hS (fun q _ h => hFc q h) hFc (fun r16 u17 t H1 locs ht hvm hw hB hz1 hk1 hS => ?_)
      have hw : r16 = 0 ∧ True := hw
      obtain ⟨er16, -⟩ := hw
      obtain ⟨hP1, hK1, hD1⟩ := hB
      rw [ht] at hP1
      have hK1 := va_K.moved hvm.symm hK1
      obtain ⟨hP, hD⟩ := va_join (wr := [(h0, .inr (1, [.ref h1, .ref h2, .ref h3, .ref h4])), (h6, .inl (y0, 3, .inl (fun _ => 0))), (h3, .inr (5, [.int 304, .int 0, .int 0, .int 0, .int 0, .int 0])), (h2, .inr (7, [.int 0, .int 0, .int 0, .int 0, .int 0]))]) (w1 := [(h4, .inr (9, [.ref h5, .ref h6, .int 0, .int 0, .int 0, .int 0])), (h5, .inl (y1, 3, .inl (fun _ => 0)))]) hP hD [1, 3] [0, 2, 4, 5] rfl rfl (by decide) (by decide) hk1 hFc hP1 hD1
      have hK := (hK.sub (tys' := [(y0, .int)]) [0] rfl).app hK1
      generalize H1 = H at hP hS ⊢
      have hP : va_P (dC, dI) vwCl [(h0, .inr (1, [.ref h1, .ref h2, .ref h3, .ref h4])), (h6, .inl (y0, 3, .inl (fun _ => 0))), (h3, .inr (5, [.int 304, .int 0, .int 0, .int 0, .int 0, .int 0])), (h2, .inr (7, [.int 0, .int 0, .int 0, .int 0, .int 0])), (h4, .inr (9, [.ref h5, .ref h6, .int 0, .int 0, .int 0, .int 0])), (h5, .inl (y1, 3, .inl (fun _ => 0)))] H := hP
      have hD : va_D A [(h0, .inr (1, [.ref h1, .ref h2, .ref h3, .ref h4])), (h6, .inl (y0, 3, .inl (fun _ => 0))), (h3, .inr (5, [.int 304, .int 0, .int 0, .int 0, .int 0, .int 0])), (h2, .inr (7, [.int 0, .int 0, .int 0, .int 0, .int 0])), (h4, .inr (9, [.ref h5, .ref h6, .int 0, .int 0, .int 0, .int 0])), (h5, .inl (y1, 3, .inl (fun _ => 0)))] := hD
      have hK : va_K (dC, dI) vwCl [(y0, .int), (y1, .int)] s := hK
      subst er16
      have hP9 := hP.sub (ws' := [(h0, .inr (1, [.ref h1, .ref h2, .ref h3, .ref h4])), (h4, .inr (9, [.ref h5, .ref h6, .int 0, .int 0, .int 0, .int 0])), (h6, .inl (y0, 3, .inl (fun _ => 0))), (h5, .inl (y1, 3, .inl (fun _ => 0))), (h3, .inr (5, [.int 304, .int 0, .int 0, .int 0, .int 0, .int 0])), (h2, .inr (7, [.int 0, .int 0, .int 0, .int 0, .int 0]))]) [0, 4, 1, 5, 2, 3] rfl
      have hD9 := hD.sub (ws' := [(h0, .inr (1, [.ref h1, .ref h2, .ref h3, .ref h4])), (h4, .inr (9, [.ref h5, .ref h6, .int 0, .int 0, .int 0, .int 0])), (h6, .inl (y0, 3, .inl (fun _ => 0))), (h5, .inl (y1, 3, .inl (fun _ => 0))), (h3, .inr (5, [.int 304, .int 0, .int 0, .int 0, .int 0, .int 0])), (h2, .inr (7, [.int 0, .int 0, .int 0, .int 0, .int 0]))]) [0, 4, 1, 5, 2, 3] (by decide) rfl
      have hK9 := hK.sub (tys' := [(y0, .int), (y1, .int)]) [0, 1] rfl
      exact W.iret (v := 0) hx hb hr (fun t ht hW => ⟨⟨0, (), rfl, ⟨rfl, trivial⟩, by rw [ht]; exact hP9, va_K.moved hW.alike hK9, hD9⟩, hS.F ht⟩) hS.2.2 dX1_thingWord_44
  · skip
    have j18 : iv x0 0 287 := iv_nleR (by decide : iv 288 288 288) ix0 c1 (by decide)
    refine lv_aload_n hx hb dX1_thingWord_7 rfl (lv_at hl 0 rfl) ?_
    refine va_get (D := (dC, dI)) (ci := 1) (v := .ref h2) (C := RX1) (T := TX1) (N := 4) hx hb hG inGX1 hown hK hP 0 rfl rfl 1 (by decide) (hG _ wd_115) (fun _ h9 => h9) rfl dX1_thingWord_8 ?_
    refine lv_iload_n hx hb dX1_thingWord_11 rfl (lv_at hl 1 rfl) ?_
    have hPc := hP.sub (ws' := [(h2, .inr (7, [.int 0, .int 0, .int 0, .int 0, .int 0]))]) [5] rfl
    have hDc := hD.sub (ws' := [(h2, .inr (7, [.int 0, .int 0, .int 0, .int 0, .int 0]))]) [5] (by decide) rfl
    have hKc := hK.sub (tys' := []) [] rfl
    have hFc := va_free (wc := [(h2, .inr (7, [.int 0, .int 0, .int 0, .int 0, .int 0]))]) hD hS hA [5] rfl
    refine va_calli (va_runV (As := [.int x0]) (rest := []) ⟨hx, hb, hml, hown, hG⟩ (cX7_value_3 l dC dI h2 s.heap.size x0 j18) (cwV 1 hG (gV wd_724 wd_725 wd_726 wd_3 wd_727) rfl rfl rfl (by decide +kernel) ⟨Nat.le_of_ble_eq_true rfl, Nat.le_of_ble_eq_true rfl⟩) ⟨fun a U g mk q => by obtain ⟨q0, q1, qP, qK, qD⟩ := q; exact ⟨q0, q1, qP, va_K.moved (u := U) (U := U.calling g mk a) (Vm.Alike.refl U.vm) qK, qD⟩, va_recv hKc hPc (ci := 7) (q0 := 0) rfl rfl, fun U hU hW => ⟨rfl, by rw [hU], by rw [hU]; exact hPc, va_K.moved hW.alike hKc, hDc.weaken (fun _ _ _ _ => trivial)⟩⟩ rfl rfl hl.1 rfl (lv_room (Nat.le_of_ble_eq_true rfl)) dX1_thingWord_12 ⟨by decide, by decide⟩) hS (fun q _ h => hFc q h) hFc (fun r19 u20 t H1 locs ht hvm hw hB hz1 hk1 hS => ?_)
    have hw : r19 = 0 ∧ True := hw
    obtain ⟨er19, -⟩ := hw
    obtain ⟨hP1, hK1, hD1⟩ := hB
    rw [ht] at hP1
    have hK1 := va_K.moved hvm.symm hK1
    obtain ⟨hP, hD⟩ := va_join (wr := [(h0, .inr (1, [.ref h1, .ref h2, .ref h3, .ref h4])), (h4, .inr (9, [.ref h5, .ref h6, .int 0, .int 0, .int 0, .int 0])), (h6, .inl (y0, 3, .inl (fun _ => 0))), (h5, .inl (y1, 3, .inl (fun _ => 0))), (h3, .inr (5, [.int 304, .int 0, .int 0, .int 0, .int 0, .int 0]))]) (w1 := [(h2, .inr (7, [.int 0, .int 0, .int 0, .int 0, .int 0]))]) hP hD [5] [0, 1, 2, 3, 4] rfl rfl (by decide) (by decide) hk1 hFc hP1 hD1
    have hK := (hK.sub (tys' := [(y0, .int), (y1, .int)]) [0, 1] rfl).app hK1
    generalize H1 = H at hP hS ⊢
    have hP : va_P (dC, dI) vwCl [(h0, .inr (1, [.ref h1, .ref h2, .ref h3, .ref h4])), (h4, .inr (9, [.ref h5, .ref h6, .int 0, .int 0, .int 0, .int 0])), (h6, .inl (y0, 3, .inl (fun _ => 0))), (h5, .inl (y1, 3, .inl (fun _ => 0))), (h3, .inr (5, [.int 304, .int 0, .int 0, .int 0, .int 0, .int 0])), (h2, .inr (7, [.int 0, .int 0, .int 0, .int 0, .int 0]))] H := hP
    have hD : va_D A [(h0, .inr (1, [.ref h1, .ref h2, .ref h3, .ref h4])), (h4, .inr (9, [.ref h5, .ref h6, .int 0, .int 0, .int 0, .int 0])), (h6, .inl (y0, 3, .inl (fun _ => 0))), (h5, .inl (y1, 3, .inl (fun _ => 0))), (h3, .inr (5, [.int 304, .int 0, .int 0, .int 0, .int 0, .int 0])), (h2, .inr (7, [.int 0, .int 0, .int 0, .int 0, .int 0]))] := hD
    have hK : va_K (dC, dI) vwCl [(y0, .int), (y1, .int)] s := hK
    subst er19
    refine lv_aload_n hx hb dX1_thingWord_15 rfl (lv_at hl 0 rfl) ?_
    refine va_get (D := (dC, dI)) (ci := 1) (v := .ref h2) (C := RX1) (T := TX1) (N := 4) hx hb hG inGX1 hown hK hP 0 rfl rfl 1 (by decide) (hG _ wd_115) (fun _ h9 => h9) rfl dX1_thingWord_16 ?_
    refine lv_iload_n hx hb dX1_thingWord_19 rfl (lv_at hl 1 rfl) ?_
    refine lv_iconst (v := 1) hx hb dX1_thingWord_20 (by decide) ?_
    refine lv_iadd hx hb dX1_thingWord_21 ?_
    refine lv_topi (fun v21 ev21 => ?_)
    have iv21 : iv v21 1 288 := iv_eq ev21 (iv_add j18 (by decide : iv 1 1 1) (by decide) (by decide))
    have hPc := hP.sub (ws' := [(h2, .inr (7, [.int 0, .int 0, .int 0, .int 0, .int 0]))]) [5] rfl
    have hDc := hD.sub (ws' := [(h2, .inr (7, [.int 0, .int 0, .int 0, .int 0, .int 0]))]) [5] (by decide) rfl
    have hKc := hK.sub (tys' := []) [] rfl
    have hFc := va_free (wc := [(h2, .inr (7, [.int 0, .int 0, .int 0, .int 0, .int 0]))]) hD hS hA [5] rfl
    refine va_calli (va_runV (As := [.int v21]) (rest := [.int 0]) ⟨hx, hb, hml, hown, hG⟩ (cX7_value_4 l dC dI h2 H.size v21 iv21) (cwV 1 hG (gV wd_724 wd_725 wd_726 wd_3 wd_727) rfl rfl rfl (by decide +kernel) ⟨Nat.le_of_ble_eq_true rfl, Nat.le_of_ble_eq_true rfl⟩) ⟨fun a U g mk q => by obtain ⟨q0, q1, qP, qK, qD⟩ := q; exact ⟨q0, q1, qP, va_K.moved (u := U) (U := U.calling g mk a) (Vm.Alike.refl U.vm) qK, qD⟩, va_recv hKc hPc (ci := 7) (q0 := 0) rfl rfl, fun U hU hW => ⟨rfl, by rw [hU], by rw [hU]; exact hPc, va_K.moved hW.alike hKc, hDc.weaken (fun _ _ _ _ => trivial)⟩⟩ rfl rfl hl.1 rfl (lv_room (Nat.le_of_ble_eq_true rfl)) dX1_thingWord_22 ⟨by decide, by decide⟩) hS (fun q _ h => hFc q h) hFc (fun r22 u23 t H1 locs ht hvm hw hB hz1 hk1 hS => ?_)
    have hw : r22 = 0 ∧ True := hw
    obtain ⟨er22, -⟩ := hw
    obtain ⟨hP1, hK1, hD1⟩ := hB
    rw [ht] at hP1
    have hK1 := va_K.moved hvm.symm hK1
    obtain ⟨hP, hD⟩ := va_join (wr := [(h0, .inr (1, [.ref h1, .ref h2, .ref h3, .ref h4])), (h4, .inr (9, [.ref h5, .ref h6, .int 0, .int 0, .int 0, .int 0])), (h6, .inl (y0, 3, .inl (fun _ => 0))), (h5, .inl (y1, 3, .inl (fun _ => 0))), (h3, .inr (5, [.int 304, .int 0, .int 0, .int 0, .int 0, .int 0]))]) (w1 := [(h2, .inr (7, [.int 0, .int 0, .int 0, .int 0, .int 0]))]) hP hD [5] [0, 1, 2, 3, 4] rfl rfl (by decide) (by decide) hk1 hFc hP1 hD1
    have hK := (hK.sub (tys' := [(y0, .int), (y1, .int)]) [0, 1] rfl).app hK1
    generalize H1 = H at hP hS ⊢
    have hP : va_P (dC, dI) vwCl [(h0, .inr (1, [.ref h1, .ref h2, .ref h3, .ref h4])), (h4, .inr (9, [.ref h5, .ref h6, .int 0, .int 0, .int 0, .int 0])), (h6, .inl (y0, 3, .inl (fun _ => 0))), (h5, .inl (y1, 3, .inl (fun _ => 0))), (h3, .inr (5, [.int 304, .int 0, .int 0, .int 0, .int 0, .int 0])), (h2, .inr (7, [.int 0, .int 0, .int 0, .int 0, .int 0]))] H := hP
    have hD : va_D A [(h0, .inr (1, [.ref h1, .ref h2, .ref h3, .ref h4])), (h4, .inr (9, [.ref h5, .ref h6, .int 0, .int 0, .int 0, .int 0])), (h6, .inl (y0, 3, .inl (fun _ => 0))), (h5, .inl (y1, 3, .inl (fun _ => 0))), (h3, .inr (5, [.int 304, .int 0, .int 0, .int 0, .int 0, .int 0])), (h2, .inr (7, [.int 0, .int 0, .int 0, .int 0, .int 0]))] := hD
    have hK : va_K (dC, dI) vwCl [(y0, .int), (y1, .int)] s := hK
    subst er22
    refine lv_bipush (v := 8) hx hb dX1_thingWord_25 (by decide) ?_
    refine lv_ishl hx hb dX1_thingWord_27 ?_
    refine lv_val (y := 0) (by decide +kernel) ?_
    refine lv_ior hx hb dX1_thingWord_28 ?_
    refine lv_val (y := 0) (by decide +kernel) ?_
    have hP9 := hP.sub (ws' := [(h0, .inr (1, [.ref h1, .ref h2, .ref h3, .ref h4])), (h4, .inr (9, [.ref h5, .ref h6, .int 0, .int 0, .int 0, .int 0])), (h6, .inl (y0, 3, .inl (fun _ => 0))), (h5, .inl (y1, 3, .inl (fun _ => 0))), (h3, .inr (5, [.int 304, .int 0, .int 0, .int 0, .int 0, .int 0])), (h2, .inr (7, [.int 0, .int 0, .int 0, .int 0, .int 0]))]) [0, 1, 2, 3, 4, 5] rfl
    have hD9 := hD.sub (ws' := [(h0, .inr (1, [.ref h1, .ref h2, .ref h3, .ref h4])), (h4, .inr (9, [.ref h5, .ref h6, .int 0, .int 0, .int 0, .int 0])), (h6, .inl (y0, 3, .inl (fun _ => 0))), (h5, .inl (y1, 3, .inl (fun _ => 0))), (h3, .inr (5, [.int 304, .int 0, .int 0, .int 0, .int 0, .int 0])), (h2, .inr (7, [.int 0, .int 0, .int 0, .int 0, .int 0]))]) [0, 1, 2, 3, 4, 5] (by decide) rfl
    have hK9 := hK.sub (tys' := [(y0, .int), (y1, .int)]) [0, 1] rfl
    exact W.iret (v := 0) hx hb hr (fun t ht hW => ⟨⟨0, (), rfl, ⟨rfl, trivial⟩, by rw [ht]; exact hP9, va_K.moved hW.alike hK9, hD9⟩, hS.F ht⟩) hS.2.2 dX1_thingWord_29
set_option maxHeartbeats 4000000 in
set_option maxRecDepth 100000 in
theorem cX1_lookByte_1 (l : Launch) (dC : Nat → ClassId) (dI : Nat → Nat → Nat) (h0 h1 h2 h3 h4 h5 h6 : Nat) (y0 y1 y2 : ClassId) (sz : Nat) (x0 : Int32) (ix0 : iv x0 0 65535) : Met l yX1_lookByte (Cond.code yX1_lookByte cX1_lookByte 4 (some .int) :: lw_G) ({ frames := 2, cells := 0, slots := 0, locals := 42 }) (va_Pc [.ref h0, .int x0] (fun U => U.heap.size = sz ∧ va_P (dC, dI) vwCl [(h0, .inr (1, [.ref h1, .ref h2, .ref h3, .ref h4])), (h1, .inl (y0, 32768, .inl (fun _ => 0))), (h4, .inr (9, [.ref h5, .ref h6, .int 0, .int 0, .int 0, .int 0])), (h6, .inl (y1, 3, .inl (fun _ => 0))), (h5, .inl (y2, 3, .inl (fun _ => 0))), (h3, .inr (5, [.int 304, .int 0, .int 0, .int 0, .int 0, .int 0])), (h2, .inr (7, [.int 0, .int 0, .int 0, .int 0, .int 0]))] U.heap ∧ va_K (dC, dI) vwCl [(y0, .int), (y1, .int), (y2, .int)] U ∧ va_D (fun _ => True) [(h0, .inr (1, [.ref h1, .ref h2, .ref h3, .ref h4])), (h1, .inl (y0, 32768, .inl (fun _ => 0))), (h4, .inr (9, [.ref h5, .ref h6, .int 0, .int 0, .int 0, .int 0])), (h6, .inl (y1, 3, .inl (fun _ => 0))), (h5, .inl (y2, 3, .inl (fun _ => 0))), (h3, .inr (5, [.int 304, .int 0, .int 0, .int 0, .int 0, .int 0])), (h2, .inr (7, [.int 0, .int 0, .int 0, .int 0, .int 0]))])) (va_Qi (fun (r : Int32) (u : Unit) => r = 0 ∧ True) (fun (u : Unit) (t : State) => va_P (dC, dI) vwCl [(h0, .inr (1, [.ref h1, .ref h2, .ref h3, .ref h4])), (h1, .inl (y0, 32768, .inl (fun _ => 0))), (h4, .inr (9, [.ref h5, .ref h6, .int 0, .int 0, .int 0, .int 0])), (h6, .inl (y1, 3, .inl (fun _ => 0))), (h5, .inl (y2, 3, .inl (fun _ => 0))), (h3, .inr (5, [.int 304, .int 0, .int 0, .int 0, .int 0, .int 0])), (h2, .inr (7, [.int 0, .int 0, .int 0, .int 0, .int 0]))] t.heap ∧ va_K (dC, dI) vwCl [(y0, .int), (y1, .int), (y2, .int)] t ∧ va_D (va_A [(h0, .inr (1, [.ref h1, .ref h2, .ref h3, .ref h4])), (h1, .inl (y0, 32768, .inl (fun _ => 0))), (h4, .inr (9, [.ref h5, .ref h6, .int 0, .int 0, .int 0, .int 0])), (h6, .inl (y1, 3, .inl (fun _ => 0))), (h5, .inl (y2, 3, .inl (fun _ => 0))), (h3, .inr (5, [.int 304, .int 0, .int 0, .int 0, .int 0, .int 0])), (h2, .inr (7, [.int 0, .int 0, .int 0, .int 0, .int 0]))] sz) [(h0, .inr (1, [.ref h1, .ref h2, .ref h3, .ref h4])), (h1, .inl (y0, 32768, .inl (fun _ => 0))), (h4, .inr (9, [.ref h5, .ref h6, .int 0, .int 0, .int 0, .int 0])), (h6, .inl (y1, 3, .inl (fun _ => 0))), (h5, .inl (y2, 3, .inl (fun _ => 0))), (h3, .inr (5, [.int 304, .int 0, .int 0, .int 0, .int 0, .int 0])), (h2, .inr (7, [.int 0, .int 0, .int 0, .int 0, .int 0]))]) (va_A [(h0, .inr (1, [.ref h1, .ref h2, .ref h3, .ref h4])), (h1, .inl (y0, 32768, .inl (fun _ => 0))), (h4, .inr (9, [.ref h5, .ref h6, .int 0, .int 0, .int 0, .int 0])), (h6, .inl (y1, 3, .inl (fun _ => 0))), (h5, .inl (y2, 3, .inl (fun _ => 0))), (h3, .inr (5, [.int 304, .int 0, .int 0, .int 0, .int 0, .int 0])), (h2, .inr (7, [.int 0, .int 0, .int 0, .int 0, .int 0]))] sz)) 0 0 (va_A [(h0, .inr (1, [.ref h1, .ref h2, .ref h3, .ref h4])), (h1, .inl (y0, 32768, .inl (fun _ => 0))), (h4, .inr (9, [.ref h5, .ref h6, .int 0, .int 0, .int 0, .int 0])), (h6, .inl (y1, 3, .inl (fun _ => 0))), (h5, .inl (y2, 3, .inl (fun _ => 0))), (h3, .inr (5, [.int 304, .int 0, .int 0, .int 0, .int 0, .int 0])), (h2, .inr (7, [.int 0, .int 0, .int 0, .int 0, .int 0]))] sz) := by
  refine Met.ofW (cc := cX1_lookByte) (maxL := 4) (ret := (some .int)) (by decide) rfl ?_
  intro p e s m args below meth c s₁ B hml hv
  obtain ⟨rfl, hsz, hP, hK, hD0⟩ := hv
  have hx := B.exec
  have hb := B.bytes
  have hr := B.returns
  have hts0 := atoms_spec (ws := Cond.code yX1_lookByte cX1_lookByte 4 (some .int) :: lw_G) B.pre
  have hG : ∀ w ∈ lw_G, w.before _ s = true := fun w h => hts0 w (List.mem_cons_of_mem _ h)
  have hown : s.vm.findClass RX1 = some m.cls := findClass_of_methodNamed B.named
  have hlocks := B.notSynchronized
  subst hsz
  have hD := hD0.self (sz := s.heap.size)
  generalize hAe : va_A [(h0, .inr (1, [.ref h1, .ref h2, .ref h3, .ref h4])), (h1, .inl (y0, 32768, .inl (fun _ => 0))), (h4, .inr (9, [.ref h5, .ref h6, .int 0, .int 0, .int 0, .int 0])), (h6, .inl (y1, 3, .inl (fun _ => 0))), (h5, .inl (y2, 3, .inl (fun _ => 0))), (h3, .inr (5, [.int 304, .int 0, .int 0, .int 0, .int 0, .int 0])), (h2, .inr (7, [.int 0, .int 0, .int 0, .int 0, .int 0]))] s.heap.size = A at hD ⊢
  have hA : ∀ q : Nat, s.heap.size ≤ q → A q := fun q h => by rw [← hAe]; exact Or.inr h
  have hS : va_S A s.heap s.heap [] := va_S.rf
  have hP : va_P (dC, dI) vwCl [(h0, .inr (1, [.ref h1, .ref h2, .ref h3, .ref h4])), (h1, .inl (y0, 32768, .inl (fun _ => 0))), (h4, .inr (9, [.ref h5, .ref h6, .int 0, .int 0, .int 0, .int 0])), (h6, .inl (y1, 3, .inl (fun _ => 0))), (h5, .inl (y2, 3, .inl (fun _ => 0))), (h3, .inr (5, [.int 304, .int 0, .int 0, .int 0, .int 0, .int 0])), (h2, .inr (7, [.int 0, .int 0, .int 0, .int 0, .int 0]))] s.heap := hP
  have hl := lv_entry ([.ref h0, .int x0]) (n := 4) (Nat.le_of_ble_eq_true rfl)
  rw [lg_entry_eq]
  generalize (lg_sl ([.ref h0, .int x0]) ++ List.replicate (4 - (lg_sl ([.ref h0, .int x0])).length) Slot.unset).toArray = ls at hl ⊢
  have hl : lv_has ls 4 [(0, .ref h0), (1, .int x0)] := hl
  refine lv_iload_n hx hb dX1_lookByte_0 rfl (lv_at hl 1 rfl) ?_
  refine lv_ldc hx hb hown (hG _ wd_719) dX1_lookByte_1 ?_
  refine lv_iand hx hb dX1_lookByte_3 ?_
  refine lv_topi (fun v1 ev1 => ?_)
  have iv1 : iv v1 0 65534 := iv_eq ev1 (iv_and (x := x0) (iv_w (by decide : iv 65534 65534 65534) (by decide) (by decide) : iv 65534 0 65534))
  refine lv_istore_n (lv' := [(2, .int v1), (0, .ref h0), (1, .int x0)]) hx hb dX1_lookByte_4 rfl hl (by decide) rfl (fun ls hl => ?_)
  refine lv_iload_n hx hb dX1_lookByte_5 rfl (lv_at hl 0 rfl) ?_
  refine lv_sipush (v := 512) hx hb dX1_lookByte_6 (by decide) ?_
  refine lv_icmp_ge (tgt := 20) hx hb dX1_lookByte_9 (by decide) (fun c2 => ?_) (fun c2 => ?_)
  · skip
    have j3 : iv v1 512 65534 := iv_leR (by decide : iv 512 512 512) iv1 c2 (by decide)
    refine lv_aload_n hx hb dX1_lookByte_20 rfl (lv_at hl 1 rfl) ?_
    refine va_get (D := (dC, dI)) (ci := 1) (v := .ref h1) (C := RX1) (T := TX1) (N := 4) hx hb hG inGX1 hown hK hP 0 rfl rfl 0 (by decide) (hG _ wd_114) (fun _ h9 => h9) rfl dX1_lookByte_21 ?_
    refine lv_iload_n hx hb dX1_lookByte_24 rfl (lv_at hl 0 rfl) ?_
    refine lv_iconst (v := 1) hx hb dX1_lookByte_25 (by decide) ?_
    refine lv_ishr hx hb dX1_lookByte_26 ?_
    refine lv_topi (fun v4 ev4 => ?_)
    have iv4 : iv v4 256 32767 := iv_eq ev4 (iv_shr 1 (by decide) j3 (by decide) (by decide))
    refine va_iald hx hb hK hP 1 0 rfl rfl (iv_in iv4 (by decide) (by decide) : vp_in v4 32768) dX1_lookByte_27 ?_
    refine lv_val (y := 0) rfl ?_
    refine lv_istore_n (lv' := [(3, .int 0), (2, .int v1), (0, .ref h0), (1, .int x0)]) hx hb dX1_lookByte_28 rfl hl (by decide) rfl (fun ls hl => ?_)
    refine lv_iload_n hx hb dX1_lookByte_29 rfl (lv_at hl 3 rfl) ?_
    refine lv_iconst (v := 1) hx hb dX1_lookByte_30 (by decide) ?_
    refine lv_iand hx hb dX1_lookByte_31 ?_
    refine lv_topi (fun v5 ev5 => ?_)
    have iv5 : iv v5 0 1 := iv_eq ev5 (iv_and (x := x0) (iv_w (by decide : iv 1 1 1) (by decide) (by decide) : iv 1 0 1))
    refine lv_if_ne (tgt := 43) hx hb dX1_lookByte_32 (by decide) (fun c6 => ?_) (fun c6 => ?_)
    · skip
      have j7 : iv v5 1 1 := iv_neLo iv5 (by decide : iv 0 0 0) c6 (by decide)
      refine lv_iload_n hx hb dX1_lookByte_43 rfl (lv_at hl 0 rfl) ?_
      refine lv_bipush (v := 8) hx hb dX1_lookByte_44 (by decide) ?_
      refine lv_ishr hx hb dX1_lookByte_46 ?_
      refine lv_val (y := 0) (by decide +kernel) ?_
      have hP9 := hP.sub (ws' := [(h0, .inr (1, [.ref h1, .ref h2, .ref h3, .ref h4])), (h1, .inl (y0, 32768, .inl (fun _ => 0))), (h4, .inr (9, [.ref h5, .ref h6, .int 0, .int 0, .int 0, .int 0])), (h6, .inl (y1, 3, .inl (fun _ => 0))), (h5, .inl (y2, 3, .inl (fun _ => 0))), (h3, .inr (5, [.int 304, .int 0, .int 0, .int 0, .int 0, .int 0])), (h2, .inr (7, [.int 0, .int 0, .int 0, .int 0, .int 0]))]) [0, 1, 2, 3, 4, 5, 6] rfl
      have hD9 := hD.sub (ws' := [(h0, .inr (1, [.ref h1, .ref h2, .ref h3, .ref h4])), (h1, .inl (y0, 32768, .inl (fun _ => 0))), (h4, .inr (9, [.ref h5, .ref h6, .int 0, .int 0, .int 0, .int 0])), (h6, .inl (y1, 3, .inl (fun _ => 0))), (h5, .inl (y2, 3, .inl (fun _ => 0))), (h3, .inr (5, [.int 304, .int 0, .int 0, .int 0, .int 0, .int 0])), (h2, .inr (7, [.int 0, .int 0, .int 0, .int 0, .int 0]))]) [0, 1, 2, 3, 4, 5, 6] (by decide) rfl
      have hK9 := hK.sub (tys' := [(y0, .int), (y1, .int), (y2, .int)]) [0, 1, 2] rfl
      exact W.iret (v := 0) hx hb hr (fun t ht hW => ⟨⟨0, (), rfl, ⟨rfl, trivial⟩, by rw [ht]; exact hP9, va_K.moved hW.alike hK9, hD9⟩, hS.F ht⟩) hS.2.2 dX1_lookByte_47
    · skip
      subst c6
      refine lv_iload_n hx hb dX1_lookByte_35 rfl (lv_at hl 0 rfl) ?_
      refine lv_sipush (v := 255) hx hb dX1_lookByte_36 (by decide) ?_
      refine lv_iand hx hb dX1_lookByte_39 ?_
      refine lv_val (y := 0) (by decide +kernel) ?_
      refine lv_goto (tgt := 47) hx hb dX1_lookByte_40 (by decide) ?_
      have hP9 := hP.sub (ws' := [(h0, .inr (1, [.ref h1, .ref h2, .ref h3, .ref h4])), (h1, .inl (y0, 32768, .inl (fun _ => 0))), (h4, .inr (9, [.ref h5, .ref h6, .int 0, .int 0, .int 0, .int 0])), (h6, .inl (y1, 3, .inl (fun _ => 0))), (h5, .inl (y2, 3, .inl (fun _ => 0))), (h3, .inr (5, [.int 304, .int 0, .int 0, .int 0, .int 0, .int 0])), (h2, .inr (7, [.int 0, .int 0, .int 0, .int 0, .int 0]))]) [0, 1, 2, 3, 4, 5, 6] rfl
      have hD9 := hD.sub (ws' := [(h0, .inr (1, [.ref h1, .ref h2, .ref h3, .ref h4])), (h1, .inl (y0, 32768, .inl (fun _ => 0))), (h4, .inr (9, [.ref h5, .ref h6, .int 0, .int 0, .int 0, .int 0])), (h6, .inl (y1, 3, .inl (fun _ => 0))), (h5, .inl (y2, 3, .inl (fun _ => 0))), (h3, .inr (5, [.int 304, .int 0, .int 0, .int 0, .int 0, .int 0])), (h2, .inr (7, [.int 0, .int 0, .int 0, .int 0, .int 0]))]) [0, 1, 2, 3, 4, 5, 6] (by decide) rfl
      have hK9 := hK.sub (tys' := [(y0, .int), (y1, .int), (y2, .int)]) [0, 1, 2] rfl
      exact W.iret (v := 0) hx hb hr (fun t ht hW => ⟨⟨0, (), rfl, ⟨rfl, trivial⟩, by rw [ht]; exact hP9, va_K.moved hW.alike hK9, hD9⟩, hS.F ht⟩) hS.2.2 dX1_lookByte_47
  · skip
    have j8 : iv v1 0 511 := iv_nleR (by decide : iv 512 512 512) iv1 c2 (by decide)
    refine lv_aload_n hx hb dX1_lookByte_12 rfl (lv_at hl 1 rfl) ?_
    refine lv_iload_n hx hb dX1_lookByte_13 rfl (lv_at hl 0 rfl) ?_
    have hPc := hP.sub (ws' := [(h0, .inr (1, [.ref h1, .ref h2, .ref h3, .ref h4])), (h4, .inr (9, [.ref h5, .ref h6, .int 0, .int 0, .int 0, .int 0])), (h6, .inl (y1, 3, .inl (fun _ => 0))), (h5, .inl (y2, 3, .inl (fun _ => 0))), (h3, .inr (5, [.int 304, .int 0, .int 0, .int 0, .int 0, .int 0])), (h2, .inr (7, [.int 0, .int 0, .int 0, .int 0, .int 0]))]) [0, 2, 3, 4, 5, 6] rfl
    have hDc := hD.sub (ws' := [(h0, .inr (1, [.ref h1, .ref h2, .ref h3, .ref h4])), (h4, .inr (9, [.ref h5, .ref h6, .int 0, .int 0, .int 0, .int 0])), (h6, .inl (y1, 3, .inl (fun _ => 0))), (h5, .inl (y2, 3, .inl (fun _ => 0))), (h3, .inr (5, [.int 304, .int 0, .int 0, .int 0, .int 0, .int 0])), (h2, .inr (7, [.int 0, .int 0, .int 0, .int 0, .int 0]))]) [0, 2, 3, 4, 5, 6] (by decide) rfl
    have hKc := hK.sub (tys' := [(y1, .int), (y2, .int)]) [1, 2] rfl
    have hFc := va_free (wc := [(h0, .inr (1, [.ref h1, .ref h2, .ref h3, .ref h4])), (h4, .inr (9, [.ref h5, .ref h6, .int 0, .int 0, .int 0, .int 0])), (h6, .inl (y1, 3, .inl (fun _ => 0))), (h5, .inl (y2, 3, .inl (fun _ => 0))), (h3, .inr (5, [.int 304, .int 0, .int 0, .int 0, .int 0, .int 0])), (h2, .inr (7, [.int 0, .int 0, .int 0, .int 0, .int 0]))]) hD hS hA [0, 2, 3, 4, 5, 6] rfl
    refine va_calli (va_runV (As := [.int v1]) (rest := []) ⟨hx, hb, hml, hown, hG⟩ (cX1_thingWord_2 l dC dI h0 h1 h2 h3 h4 h5 h6 y1 y2 s.heap.size v1 j8) (cwV 1 hG (gV wd_720 wd_722 wp_27 wd_2 wd_723) rfl rfl rfl (by decide +kernel) ⟨Nat.le_of_ble_eq_true rfl, Nat.le_of_ble_eq_true rfl⟩) ⟨fun a U g mk q => by obtain ⟨q0, q1, qP, qK, qD⟩ := q; exact ⟨q0, q1, qP, va_K.moved (u := U) (U := U.calling g mk a) (Vm.Alike.refl U.vm) qK, qD⟩, va_recv hKc hPc (ci := 1) (q0 := 0) rfl rfl, fun U hU hW => ⟨rfl, by rw [hU], by rw [hU]; exact hPc, va_K.moved hW.alike hKc, hDc.weaken (fun _ _ _ _ => trivial)⟩⟩ rfl rfl hl.1 rfl (lv_room (Nat.le_of_ble_eq_true rfl)) dX1_lookByte_14 ⟨by decide, by decide⟩) hS (fun q _ h => hFc q h) hFc (fun r9 u10 t H1 locs ht hvm hw hB hz1 hk1 hS => ?_)
    have hw : r9 = 0 ∧ True := hw
    obtain ⟨er9, -⟩ := hw
    obtain ⟨hP1, hK1, hD1⟩ := hB
    rw [ht] at hP1
    have hK1 := va_K.moved hvm.symm hK1
    obtain ⟨hP, hD⟩ := va_join (wr := [(h1, .inl (y0, 32768, .inl (fun _ => 0)))]) (w1 := [(h0, .inr (1, [.ref h1, .ref h2, .ref h3, .ref h4])), (h4, .inr (9, [.ref h5, .ref h6, .int 0, .int 0, .int 0, .int 0])), (h6, .inl (y1, 3, .inl (fun _ => 0))), (h5, .inl (y2, 3, .inl (fun _ => 0))), (h3, .inr (5, [.int 304, .int 0, .int 0, .int 0, .int 0, .int 0])), (h2, .inr (7, [.int 0, .int 0, .int 0, .int 0, .int 0]))]) hP hD [0, 2, 3, 4, 5, 6] [1] rfl rfl (by decide) (by decide) hk1 hFc hP1 hD1
    have hK := (hK.sub (tys' := [(y0, .int)]) [0] rfl).app hK1
    generalize H1 = H at hP hS ⊢
    have hP : va_P (dC, dI) vwCl [(h1, .inl (y0, 32768, .inl (fun _ => 0))), (h0, .inr (1, [.ref h1, .ref h2, .ref h3, .ref h4])), (h4, .inr (9, [.ref h5, .ref h6, .int 0, .int 0, .int 0, .int 0])), (h6, .inl (y1, 3, .inl (fun _ => 0))), (h5, .inl (y2, 3, .inl (fun _ => 0))), (h3, .inr (5, [.int 304, .int 0, .int 0, .int 0, .int 0, .int 0])), (h2, .inr (7, [.int 0, .int 0, .int 0, .int 0, .int 0]))] H := hP
    have hD : va_D A [(h1, .inl (y0, 32768, .inl (fun _ => 0))), (h0, .inr (1, [.ref h1, .ref h2, .ref h3, .ref h4])), (h4, .inr (9, [.ref h5, .ref h6, .int 0, .int 0, .int 0, .int 0])), (h6, .inl (y1, 3, .inl (fun _ => 0))), (h5, .inl (y2, 3, .inl (fun _ => 0))), (h3, .inr (5, [.int 304, .int 0, .int 0, .int 0, .int 0, .int 0])), (h2, .inr (7, [.int 0, .int 0, .int 0, .int 0, .int 0]))] := hD
    have hK : va_K (dC, dI) vwCl [(y0, .int), (y1, .int), (y2, .int)] s := hK
    subst er9
    refine lv_goto (tgt := 28) hx hb dX1_lookByte_17 (by decide) ?_
    refine lv_istore_n (lv' := [(3, .int 0), (2, .int v1), (0, .ref h0), (1, .int x0)]) hx hb dX1_lookByte_28 rfl hl (by decide) rfl (fun ls hl => ?_)
    refine lv_iload_n hx hb dX1_lookByte_29 rfl (lv_at hl 3 rfl) ?_
    refine lv_iconst (v := 1) hx hb dX1_lookByte_30 (by decide) ?_
    refine lv_iand hx hb dX1_lookByte_31 ?_
    refine lv_topi (fun v11 ev11 => ?_)
    have iv11 : iv v11 0 1 := iv_eq ev11 (iv_and (x := x0) (iv_w (by decide : iv 1 1 1) (by decide) (by decide) : iv 1 0 1))
    refine lv_if_ne (tgt := 43) hx hb dX1_lookByte_32 (by decide) (fun c12 => ?_) (fun c12 => ?_)
    · skip
      have j13 : iv v11 1 1 := iv_neLo iv11 (by decide : iv 0 0 0) c12 (by decide)
      refine lv_iload_n hx hb dX1_lookByte_43 rfl (lv_at hl 0 rfl) ?_
      refine lv_bipush (v := 8) hx hb dX1_lookByte_44 (by decide) ?_
      refine lv_ishr hx hb dX1_lookByte_46 ?_
      refine lv_val (y := 0) (by decide +kernel) ?_
      have hP9 := hP.sub (ws' := [(h0, .inr (1, [.ref h1, .ref h2, .ref h3, .ref h4])), (h1, .inl (y0, 32768, .inl (fun _ => 0))), (h4, .inr (9, [.ref h5, .ref h6, .int 0, .int 0, .int 0, .int 0])), (h6, .inl (y1, 3, .inl (fun _ => 0))), (h5, .inl (y2, 3, .inl (fun _ => 0))), (h3, .inr (5, [.int 304, .int 0, .int 0, .int 0, .int 0, .int 0])), (h2, .inr (7, [.int 0, .int 0, .int 0, .int 0, .int 0]))]) [1, 0, 2, 3, 4, 5, 6] rfl
      have hD9 := hD.sub (ws' := [(h0, .inr (1, [.ref h1, .ref h2, .ref h3, .ref h4])), (h1, .inl (y0, 32768, .inl (fun _ => 0))), (h4, .inr (9, [.ref h5, .ref h6, .int 0, .int 0, .int 0, .int 0])), (h6, .inl (y1, 3, .inl (fun _ => 0))), (h5, .inl (y2, 3, .inl (fun _ => 0))), (h3, .inr (5, [.int 304, .int 0, .int 0, .int 0, .int 0, .int 0])), (h2, .inr (7, [.int 0, .int 0, .int 0, .int 0, .int 0]))]) [1, 0, 2, 3, 4, 5, 6] (by decide) rfl
      have hK9 := hK.sub (tys' := [(y0, .int), (y1, .int), (y2, .int)]) [0, 1, 2] rfl
      exact W.iret (v := 0) hx hb hr (fun t ht hW => ⟨⟨0, (), rfl, ⟨rfl, trivial⟩, by rw [ht]; exact hP9, va_K.moved hW.alike hK9, hD9⟩, hS.F ht⟩) hS.2.2 dX1_lookByte_47
    · skip
      subst c12
      refine lv_iload_n hx hb dX1_lookByte_35 rfl (lv_at hl 0 rfl) ?_
      refine lv_sipush (v := 255) hx hb dX1_lookByte_36 (by decide) ?_
      refine lv_iand hx hb dX1_lookByte_39 ?_
      refine lv_val (y := 0) (by decide +kernel) ?_
      refine lv_goto (tgt := 47) hx hb dX1_lookByte_40 (by decide) ?_
      have hP9 := hP.sub (ws' := [(h0, .inr (1, [.ref h1, .ref h2, .ref h3, .ref h4])), (h1, .inl (y0, 32768, .inl (fun _ => 0))), (h4, .inr (9, [.ref h5, .ref h6, .int 0, .int 0, .int 0, .int 0])), (h6, .inl (y1, 3, .inl (fun _ => 0))), (h5, .inl (y2, 3, .inl (fun _ => 0))), (h3, .inr (5, [.int 304, .int 0, .int 0, .int 0, .int 0, .int 0])), (h2, .inr (7, [.int 0, .int 0, .int 0, .int 0, .int 0]))]) [1, 0, 2, 3, 4, 5, 6] rfl
      have hD9 := hD.sub (ws' := [(h0, .inr (1, [.ref h1, .ref h2, .ref h3, .ref h4])), (h1, .inl (y0, 32768, .inl (fun _ => 0))), (h4, .inr (9, [.ref h5, .ref h6, .int 0, .int 0, .int 0, .int 0])), (h6, .inl (y1, 3, .inl (fun _ => 0))), (h5, .inl (y2, 3, .inl (fun _ => 0))), (h3, .inr (5, [.int 304, .int 0, .int 0, .int 0, .int 0, .int 0])), (h2, .inr (7, [.int 0, .int 0, .int 0, .int 0, .int 0]))]) [1, 0, 2, 3, 4, 5, 6] (by decide) rfl
      have hK9 := hK.sub (tys' := [(y0, .int), (y1, .int), (y2, .int)]) [0, 1, 2] rfl
      exact W.iret (v := 0) hx hb hr (fun t ht hW => ⟨⟨0, (), rfl, ⟨rfl, trivial⟩, by rw [ht]; exact hP9, va_K.moved hW.alike hK9, hD9⟩, hS.F ht⟩) hS.2.2 dX1_lookByte_47
set_option maxHeartbeats 4000000 in
set_option maxRecDepth 100000 in
theorem cX11_peek_3 (l : Launch) (dC : Nat → ClassId) (dI : Nat → Nat → Nat) (h0 h1 h2 h3 h4 h5 h6 h7 h8 h9 h10 h11 : Nat) (y0 y1 y2 : ClassId) (sz : Nat) (x0 : Int32) (ix0 : iv x0 0 65535) : Met l yX11_peek (Cond.code yX11_peek cX11_peek 2 (some .int) :: lw_G) ({ frames := 3, cells := 0, slots := 0, locals := 65 }) (va_Pc [.ref h0, .int x0] (fun U => U.heap.size = sz ∧ va_P (dC, dI) vwCl [(h0, .inr (11, [.ref h1, .ref h2, .ref h3, .ref h4, .ref h5, .int 0, .int 0])), (h2, .inr (1, [.ref h6, .ref h7, .ref h8, .ref h9])), (h6, .inl (y0, 32768, .inl (fun _ => 0))), (h9, .inr (9, [.ref h10, .ref h11, .int 0, .int 0, .int 0, .int 0])), (h11, .inl (y1, 3, .inl (fun _ => 0))), (h10, .inl (y2, 3, .inl (fun _ => 0))), (h8, .inr (5, [.int 304, .int 0, .int 0, .int 0, .int 0, .int 0])), (h7, .inr (7, [.int 0, .int 0, .int 0, .int 0, .int 0]))] U.heap ∧ va_K (dC, dI) vwCl [(y0, .int), (y1, .int), (y2, .int)] U ∧ va_D (fun _ => True) [(h0, .inr (11, [.ref h1, .ref h2, .ref h3, .ref h4, .ref h5, .int 0, .int 0])), (h2, .inr (1, [.ref h6, .ref h7, .ref h8, .ref h9])), (h6, .inl (y0, 32768, .inl (fun _ => 0))), (h9, .inr (9, [.ref h10, .ref h11, .int 0, .int 0, .int 0, .int 0])), (h11, .inl (y1, 3, .inl (fun _ => 0))), (h10, .inl (y2, 3, .inl (fun _ => 0))), (h8, .inr (5, [.int 304, .int 0, .int 0, .int 0, .int 0, .int 0])), (h7, .inr (7, [.int 0, .int 0, .int 0, .int 0, .int 0]))])) (va_Qi (fun (r : Int32) (u : Unit) => r = 0 ∧ True) (fun (u : Unit) (t : State) => va_P (dC, dI) vwCl [(h0, .inr (11, [.ref h1, .ref h2, .ref h3, .ref h4, .ref h5, .int 0, .int 0])), (h2, .inr (1, [.ref h6, .ref h7, .ref h8, .ref h9])), (h6, .inl (y0, 32768, .inl (fun _ => 0))), (h9, .inr (9, [.ref h10, .ref h11, .int 0, .int 0, .int 0, .int 0])), (h11, .inl (y1, 3, .inl (fun _ => 0))), (h10, .inl (y2, 3, .inl (fun _ => 0))), (h8, .inr (5, [.int 304, .int 0, .int 0, .int 0, .int 0, .int 0])), (h7, .inr (7, [.int 0, .int 0, .int 0, .int 0, .int 0]))] t.heap ∧ va_K (dC, dI) vwCl [(y0, .int), (y1, .int), (y2, .int)] t ∧ va_D (va_A [(h0, .inr (11, [.ref h1, .ref h2, .ref h3, .ref h4, .ref h5, .int 0, .int 0])), (h2, .inr (1, [.ref h6, .ref h7, .ref h8, .ref h9])), (h6, .inl (y0, 32768, .inl (fun _ => 0))), (h9, .inr (9, [.ref h10, .ref h11, .int 0, .int 0, .int 0, .int 0])), (h11, .inl (y1, 3, .inl (fun _ => 0))), (h10, .inl (y2, 3, .inl (fun _ => 0))), (h8, .inr (5, [.int 304, .int 0, .int 0, .int 0, .int 0, .int 0])), (h7, .inr (7, [.int 0, .int 0, .int 0, .int 0, .int 0]))] sz) [(h0, .inr (11, [.ref h1, .ref h2, .ref h3, .ref h4, .ref h5, .int 0, .int 0])), (h2, .inr (1, [.ref h6, .ref h7, .ref h8, .ref h9])), (h6, .inl (y0, 32768, .inl (fun _ => 0))), (h9, .inr (9, [.ref h10, .ref h11, .int 0, .int 0, .int 0, .int 0])), (h11, .inl (y1, 3, .inl (fun _ => 0))), (h10, .inl (y2, 3, .inl (fun _ => 0))), (h8, .inr (5, [.int 304, .int 0, .int 0, .int 0, .int 0, .int 0])), (h7, .inr (7, [.int 0, .int 0, .int 0, .int 0, .int 0]))]) (va_A [(h0, .inr (11, [.ref h1, .ref h2, .ref h3, .ref h4, .ref h5, .int 0, .int 0])), (h2, .inr (1, [.ref h6, .ref h7, .ref h8, .ref h9])), (h6, .inl (y0, 32768, .inl (fun _ => 0))), (h9, .inr (9, [.ref h10, .ref h11, .int 0, .int 0, .int 0, .int 0])), (h11, .inl (y1, 3, .inl (fun _ => 0))), (h10, .inl (y2, 3, .inl (fun _ => 0))), (h8, .inr (5, [.int 304, .int 0, .int 0, .int 0, .int 0, .int 0])), (h7, .inr (7, [.int 0, .int 0, .int 0, .int 0, .int 0]))] sz)) 0 0 (va_A [(h0, .inr (11, [.ref h1, .ref h2, .ref h3, .ref h4, .ref h5, .int 0, .int 0])), (h2, .inr (1, [.ref h6, .ref h7, .ref h8, .ref h9])), (h6, .inl (y0, 32768, .inl (fun _ => 0))), (h9, .inr (9, [.ref h10, .ref h11, .int 0, .int 0, .int 0, .int 0])), (h11, .inl (y1, 3, .inl (fun _ => 0))), (h10, .inl (y2, 3, .inl (fun _ => 0))), (h8, .inr (5, [.int 304, .int 0, .int 0, .int 0, .int 0, .int 0])), (h7, .inr (7, [.int 0, .int 0, .int 0, .int 0, .int 0]))] sz) := by
  refine Met.ofW (cc := cX11_peek) (maxL := 2) (ret := (some .int)) (by decide) rfl ?_
  intro p e s m args below meth c s₁ B hml hv
  obtain ⟨rfl, hsz, hP, hK, hD0⟩ := hv
  have hx := B.exec
  have hb := B.bytes
  have hr := B.returns
  have hts0 := atoms_spec (ws := Cond.code yX11_peek cX11_peek 2 (some .int) :: lw_G) B.pre
  have hG : ∀ w ∈ lw_G, w.before _ s = true := fun w h => hts0 w (List.mem_cons_of_mem _ h)
  have hown : s.vm.findClass RX11 = some m.cls := findClass_of_methodNamed B.named
  have hlocks := B.notSynchronized
  subst hsz
  have hD := hD0.self (sz := s.heap.size)
  generalize hAe : va_A [(h0, .inr (11, [.ref h1, .ref h2, .ref h3, .ref h4, .ref h5, .int 0, .int 0])), (h2, .inr (1, [.ref h6, .ref h7, .ref h8, .ref h9])), (h6, .inl (y0, 32768, .inl (fun _ => 0))), (h9, .inr (9, [.ref h10, .ref h11, .int 0, .int 0, .int 0, .int 0])), (h11, .inl (y1, 3, .inl (fun _ => 0))), (h10, .inl (y2, 3, .inl (fun _ => 0))), (h8, .inr (5, [.int 304, .int 0, .int 0, .int 0, .int 0, .int 0])), (h7, .inr (7, [.int 0, .int 0, .int 0, .int 0, .int 0]))] s.heap.size = A at hD ⊢
  have hA : ∀ q : Nat, s.heap.size ≤ q → A q := fun q h => by rw [← hAe]; exact Or.inr h
  have hS : va_S A s.heap s.heap [] := va_S.rf
  have hP : va_P (dC, dI) vwCl [(h0, .inr (11, [.ref h1, .ref h2, .ref h3, .ref h4, .ref h5, .int 0, .int 0])), (h2, .inr (1, [.ref h6, .ref h7, .ref h8, .ref h9])), (h6, .inl (y0, 32768, .inl (fun _ => 0))), (h9, .inr (9, [.ref h10, .ref h11, .int 0, .int 0, .int 0, .int 0])), (h11, .inl (y1, 3, .inl (fun _ => 0))), (h10, .inl (y2, 3, .inl (fun _ => 0))), (h8, .inr (5, [.int 304, .int 0, .int 0, .int 0, .int 0, .int 0])), (h7, .inr (7, [.int 0, .int 0, .int 0, .int 0, .int 0]))] s.heap := hP
  have hl := lv_entry ([.ref h0, .int x0]) (n := 2) (Nat.le_of_ble_eq_true rfl)
  rw [lg_entry_eq]
  generalize (lg_sl ([.ref h0, .int x0]) ++ List.replicate (2 - (lg_sl ([.ref h0, .int x0])).length) Slot.unset).toArray = ls at hl ⊢
  have hl : lv_has ls 2 [(0, .ref h0), (1, .int x0)] := hl
  refine lv_iload_n hx hb dX11_peek_0 rfl (lv_at hl 1 rfl) ?_
  refine lv_if_lt (tgt := 10) hx hb dX11_peek_1 (by decide) (fun c => absurd c (iv_nlt ix0 (by decide : iv 0 0 0) (by decide))) (fun _ => ?_)
  refine lv_iload_n hx hb dX11_peek_4 rfl (lv_at hl 1 rfl) ?_
  refine lv_ldc hx hb hown (hG _ wd_1157) dX11_peek_5 ?_
  refine lv_icmp_lt (tgt := 20) hx hb dX11_peek_7 (by decide) (fun _ => ?_) (fun c => absurd (iv_lt ix0 (by decide : iv 65536 65536 65536) (by decide)) c)
  refine lv_aload_n hx hb dX11_peek_20 rfl (lv_at hl 0 rfl) ?_
  refine va_get (D := (dC, dI)) (ci := 11) (v := .ref h2) (C := RX11) (T := TX11) (N := 7) hx hb hG inGX11 hown hK hP 0 rfl rfl 1 (by decide) (hG _ wd_396) (fun _ h9 => h9) rfl dX11_peek_21 ?_
  refine lv_iload_n hx hb dX11_peek_24 rfl (lv_at hl 1 rfl) ?_
  have hPc := hP.sub (ws' := [(h2, .inr (1, [.ref h6, .ref h7, .ref h8, .ref h9])), (h6, .inl (y0, 32768, .inl (fun _ => 0))), (h9, .inr (9, [.ref h10, .ref h11, .int 0, .int 0, .int 0, .int 0])), (h11, .inl (y1, 3, .inl (fun _ => 0))), (h10, .inl (y2, 3, .inl (fun _ => 0))), (h8, .inr (5, [.int 304, .int 0, .int 0, .int 0, .int 0, .int 0])), (h7, .inr (7, [.int 0, .int 0, .int 0, .int 0, .int 0]))]) [1, 2, 3, 4, 5, 6, 7] rfl
  have hDc := hD.sub (ws' := [(h2, .inr (1, [.ref h6, .ref h7, .ref h8, .ref h9])), (h6, .inl (y0, 32768, .inl (fun _ => 0))), (h9, .inr (9, [.ref h10, .ref h11, .int 0, .int 0, .int 0, .int 0])), (h11, .inl (y1, 3, .inl (fun _ => 0))), (h10, .inl (y2, 3, .inl (fun _ => 0))), (h8, .inr (5, [.int 304, .int 0, .int 0, .int 0, .int 0, .int 0])), (h7, .inr (7, [.int 0, .int 0, .int 0, .int 0, .int 0]))]) [1, 2, 3, 4, 5, 6, 7] (by decide) rfl
  have hKc := hK.sub (tys' := [(y0, .int), (y1, .int), (y2, .int)]) [0, 1, 2] rfl
  have hFc := va_free (wc := [(h2, .inr (1, [.ref h6, .ref h7, .ref h8, .ref h9])), (h6, .inl (y0, 32768, .inl (fun _ => 0))), (h9, .inr (9, [.ref h10, .ref h11, .int 0, .int 0, .int 0, .int 0])), (h11, .inl (y1, 3, .inl (fun _ => 0))), (h10, .inl (y2, 3, .inl (fun _ => 0))), (h8, .inr (5, [.int 304, .int 0, .int 0, .int 0, .int 0, .int 0])), (h7, .inr (7, [.int 0, .int 0, .int 0, .int 0, .int 0]))]) hD hS hA [1, 2, 3, 4, 5, 6, 7] rfl
  refine va_calli (va_runV (As := [.int x0]) (rest := []) ⟨hx, hb, hml, hown, hG⟩ (cX1_lookByte_1 l dC dI h2 h6 h7 h8 h9 h10 h11 y0 y1 y2 s.heap.size x0 ix0) (cwV 1 hG (gV wd_1159 wd_1160 wd_1161 wd_2 wd_1162) rfl rfl rfl (by decide +kernel) ⟨Nat.le_of_ble_eq_true rfl, Nat.le_of_ble_eq_true rfl⟩) ⟨fun a U g mk q => by obtain ⟨q0, q1, qP, qK, qD⟩ := q; exact ⟨q0, q1, qP, va_K.moved (u := U) (U := U.calling g mk a) (Vm.Alike.refl U.vm) qK, qD⟩, va_recv hKc hPc (ci := 1) (q0 := 0) rfl rfl, fun U hU hW => ⟨rfl, by rw [hU], by rw [hU]; exact hPc, va_K.moved hW.alike hKc, hDc.weaken (fun _ _ _ _ => trivial)⟩⟩ rfl rfl hl.1 rfl (lv_room (Nat.le_of_ble_eq_true rfl)) dX11_peek_25 ⟨by decide, by decide⟩) hS (fun q _ h => hFc q h) hFc (fun r1 u2 t H1 locs ht hvm hw hB hz1 hk1 hS => ?_)
  have hw : r1 = 0 ∧ True := hw
  obtain ⟨er1, -⟩ := hw
  obtain ⟨hP1, hK1, hD1⟩ := hB
  rw [ht] at hP1
  have hK1 := va_K.moved hvm.symm hK1
  obtain ⟨hP, hD⟩ := va_join (wr := [(h0, .inr (11, [.ref h1, .ref h2, .ref h3, .ref h4, .ref h5, .int 0, .int 0]))]) (w1 := [(h2, .inr (1, [.ref h6, .ref h7, .ref h8, .ref h9])), (h6, .inl (y0, 32768, .inl (fun _ => 0))), (h9, .inr (9, [.ref h10, .ref h11, .int 0, .int 0, .int 0, .int 0])), (h11, .inl (y1, 3, .inl (fun _ => 0))), (h10, .inl (y2, 3, .inl (fun _ => 0))), (h8, .inr (5, [.int 304, .int 0, .int 0, .int 0, .int 0, .int 0])), (h7, .inr (7, [.int 0, .int 0, .int 0, .int 0, .int 0]))]) hP hD [1, 2, 3, 4, 5, 6, 7] [0] rfl rfl (by decide) (by decide) hk1 hFc hP1 hD1
  have hK := (hK.sub (tys' := []) [] rfl).app hK1
  generalize H1 = H at hP hS ⊢
  have hP : va_P (dC, dI) vwCl [(h0, .inr (11, [.ref h1, .ref h2, .ref h3, .ref h4, .ref h5, .int 0, .int 0])), (h2, .inr (1, [.ref h6, .ref h7, .ref h8, .ref h9])), (h6, .inl (y0, 32768, .inl (fun _ => 0))), (h9, .inr (9, [.ref h10, .ref h11, .int 0, .int 0, .int 0, .int 0])), (h11, .inl (y1, 3, .inl (fun _ => 0))), (h10, .inl (y2, 3, .inl (fun _ => 0))), (h8, .inr (5, [.int 304, .int 0, .int 0, .int 0, .int 0, .int 0])), (h7, .inr (7, [.int 0, .int 0, .int 0, .int 0, .int 0]))] H := hP
  have hD : va_D A [(h0, .inr (11, [.ref h1, .ref h2, .ref h3, .ref h4, .ref h5, .int 0, .int 0])), (h2, .inr (1, [.ref h6, .ref h7, .ref h8, .ref h9])), (h6, .inl (y0, 32768, .inl (fun _ => 0))), (h9, .inr (9, [.ref h10, .ref h11, .int 0, .int 0, .int 0, .int 0])), (h11, .inl (y1, 3, .inl (fun _ => 0))), (h10, .inl (y2, 3, .inl (fun _ => 0))), (h8, .inr (5, [.int 304, .int 0, .int 0, .int 0, .int 0, .int 0])), (h7, .inr (7, [.int 0, .int 0, .int 0, .int 0, .int 0]))] := hD
  have hK : va_K (dC, dI) vwCl [(y0, .int), (y1, .int), (y2, .int)] s := hK
  subst er1
  have hP9 := hP.sub (ws' := [(h0, .inr (11, [.ref h1, .ref h2, .ref h3, .ref h4, .ref h5, .int 0, .int 0])), (h2, .inr (1, [.ref h6, .ref h7, .ref h8, .ref h9])), (h6, .inl (y0, 32768, .inl (fun _ => 0))), (h9, .inr (9, [.ref h10, .ref h11, .int 0, .int 0, .int 0, .int 0])), (h11, .inl (y1, 3, .inl (fun _ => 0))), (h10, .inl (y2, 3, .inl (fun _ => 0))), (h8, .inr (5, [.int 304, .int 0, .int 0, .int 0, .int 0, .int 0])), (h7, .inr (7, [.int 0, .int 0, .int 0, .int 0, .int 0]))]) [0, 1, 2, 3, 4, 5, 6, 7] rfl
  have hD9 := hD.sub (ws' := [(h0, .inr (11, [.ref h1, .ref h2, .ref h3, .ref h4, .ref h5, .int 0, .int 0])), (h2, .inr (1, [.ref h6, .ref h7, .ref h8, .ref h9])), (h6, .inl (y0, 32768, .inl (fun _ => 0))), (h9, .inr (9, [.ref h10, .ref h11, .int 0, .int 0, .int 0, .int 0])), (h11, .inl (y1, 3, .inl (fun _ => 0))), (h10, .inl (y2, 3, .inl (fun _ => 0))), (h8, .inr (5, [.int 304, .int 0, .int 0, .int 0, .int 0, .int 0])), (h7, .inr (7, [.int 0, .int 0, .int 0, .int 0, .int 0]))]) [0, 1, 2, 3, 4, 5, 6, 7] (by decide) rfl
  have hK9 := hK.sub (tys' := [(y0, .int), (y1, .int), (y2, .int)]) [0, 1, 2] rfl
  exact W.iret (v := 0) hx hb hr (fun t ht hW => ⟨⟨0, (), rfl, ⟨rfl, trivial⟩, by rw [ht]; exact hP9, va_K.moved hW.alike hK9, hD9⟩, hS.F ht⟩) hS.2.2 dX11_peek_28
set_option maxHeartbeats 4000000 in
set_option maxRecDepth 100000 in
theorem cL_peek_3 (l : Launch) (dC : Nat → ClassId) (dI : Nat → Nat → Nat) (h0 h1 h2 h3 h4 h5 h6 h7 h8 h9 h10 h11 h12 : Nat) (y0 y1 y2 y3 : ClassId) (sz : Nat) (x0 : Int32) (ix0 : iv x0 0 65535) : Met l yL_peek (Cond.codeWith yL_peek cL_peek 4 (some .int) [(0, 9, 12, 19)] :: lw_G) ({ frames := 4, cells := 0, slots := 0, locals := 86 }) (va_Pc [.ref h0, .int x0, .ref h1] (fun U => U.heap.size = sz ∧ va_P (dC, dI) vwCl [(h0, .inr (11, [.ref h2, .ref h3, .ref h4, .ref h5, .ref h6, .int 0, .int 0])), (h3, .inr (1, [.ref h7, .ref h8, .ref h9, .ref h10])), (h7, .inl (y0, 32768, .inl (fun _ => 0))), (h10, .inr (9, [.ref h11, .ref h12, .int 0, .int 0, .int 0, .int 0])), (h12, .inl (y1, 3, .inl (fun _ => 0))), (h11, .inl (y2, 3, .inl (fun _ => 0))), (h9, .inr (5, [.int 304, .int 0, .int 0, .int 0, .int 0, .int 0])), (h8, .inr (7, [.int 0, .int 0, .int 0, .int 0, .int 0])), (h1, .inl (y3, 1, .inr (.inl (fun _ => 0))))] U.heap ∧ va_K (dC, dI) vwCl [(y0, .int), (y1, .int), (y2, .int), (y3, .long)] U ∧ va_D (fun _ => True) [(h0, .inr (11, [.ref h2, .ref h3, .ref h4, .ref h5, .ref h6, .int 0, .int 0])), (h3, .inr (1, [.ref h7, .ref h8, .ref h9, .ref h10])), (h7, .inl (y0, 32768, .inl (fun _ => 0))), (h10, .inr (9, [.ref h11, .ref h12, .int 0, .int 0, .int 0, .int 0])), (h12, .inl (y1, 3, .inl (fun _ => 0))), (h11, .inl (y2, 3, .inl (fun _ => 0))), (h9, .inr (5, [.int 304, .int 0, .int 0, .int 0, .int 0, .int 0])), (h8, .inr (7, [.int 0, .int 0, .int 0, .int 0, .int 0])), (h1, .inl (y3, 1, .inr (.inl (fun _ => 0))))])) (va_Qi (fun (r : Int32) (u : (Nat → Int64)) => r = 0 ∧ u 0 = 0 ∧ True) (fun (u : (Nat → Int64)) (t : State) => va_P (dC, dI) vwCl [(h0, .inr (11, [.ref h2, .ref h3, .ref h4, .ref h5, .ref h6, .int 0, .int 0])), (h3, .inr (1, [.ref h7, .ref h8, .ref h9, .ref h10])), (h7, .inl (y0, 32768, .inl (fun _ => 0))), (h10, .inr (9, [.ref h11, .ref h12, .int 0, .int 0, .int 0, .int 0])), (h12, .inl (y1, 3, .inl (fun _ => 0))), (h11, .inl (y2, 3, .inl (fun _ => 0))), (h9, .inr (5, [.int 304, .int 0, .int 0, .int 0, .int 0, .int 0])), (h8, .inr (7, [.int 0, .int 0, .int 0, .int 0, .int 0])), (h1, .inl (y3, 1, .inr (.inl u)))] t.heap ∧ va_K (dC, dI) vwCl [(y0, .int), (y1, .int), (y2, .int), (y3, .long)] t ∧ va_D (va_A [(h0, .inr (11, [.ref h2, .ref h3, .ref h4, .ref h5, .ref h6, .int 0, .int 0])), (h3, .inr (1, [.ref h7, .ref h8, .ref h9, .ref h10])), (h7, .inl (y0, 32768, .inl (fun _ => 0))), (h10, .inr (9, [.ref h11, .ref h12, .int 0, .int 0, .int 0, .int 0])), (h12, .inl (y1, 3, .inl (fun _ => 0))), (h11, .inl (y2, 3, .inl (fun _ => 0))), (h9, .inr (5, [.int 304, .int 0, .int 0, .int 0, .int 0, .int 0])), (h8, .inr (7, [.int 0, .int 0, .int 0, .int 0, .int 0])), (h1, .inl (y3, 1, .inr (.inl (fun _ => 0))))] sz) [(h0, .inr (11, [.ref h2, .ref h3, .ref h4, .ref h5, .ref h6, .int 0, .int 0])), (h3, .inr (1, [.ref h7, .ref h8, .ref h9, .ref h10])), (h7, .inl (y0, 32768, .inl (fun _ => 0))), (h10, .inr (9, [.ref h11, .ref h12, .int 0, .int 0, .int 0, .int 0])), (h12, .inl (y1, 3, .inl (fun _ => 0))), (h11, .inl (y2, 3, .inl (fun _ => 0))), (h9, .inr (5, [.int 304, .int 0, .int 0, .int 0, .int 0, .int 0])), (h8, .inr (7, [.int 0, .int 0, .int 0, .int 0, .int 0])), (h1, .inl (y3, 1, .inr (.inl u)))]) (va_A [(h0, .inr (11, [.ref h2, .ref h3, .ref h4, .ref h5, .ref h6, .int 0, .int 0])), (h3, .inr (1, [.ref h7, .ref h8, .ref h9, .ref h10])), (h7, .inl (y0, 32768, .inl (fun _ => 0))), (h10, .inr (9, [.ref h11, .ref h12, .int 0, .int 0, .int 0, .int 0])), (h12, .inl (y1, 3, .inl (fun _ => 0))), (h11, .inl (y2, 3, .inl (fun _ => 0))), (h9, .inr (5, [.int 304, .int 0, .int 0, .int 0, .int 0, .int 0])), (h8, .inr (7, [.int 0, .int 0, .int 0, .int 0, .int 0])), (h1, .inl (y3, 1, .inr (.inl (fun _ => 0))))] sz)) 0 0 (va_A [(h0, .inr (11, [.ref h2, .ref h3, .ref h4, .ref h5, .ref h6, .int 0, .int 0])), (h3, .inr (1, [.ref h7, .ref h8, .ref h9, .ref h10])), (h7, .inl (y0, 32768, .inl (fun _ => 0))), (h10, .inr (9, [.ref h11, .ref h12, .int 0, .int 0, .int 0, .int 0])), (h12, .inl (y1, 3, .inl (fun _ => 0))), (h11, .inl (y2, 3, .inl (fun _ => 0))), (h9, .inr (5, [.int 304, .int 0, .int 0, .int 0, .int 0, .int 0])), (h8, .inr (7, [.int 0, .int 0, .int 0, .int 0, .int 0])), (h1, .inl (y3, 1, .inr (.inl (fun _ => 0))))] sz) := by
  refine va_MetW (cc := cL_peek) (maxL := 4) (ret := (some .int)) (by decide) rfl ?_
  intro p e s m args below meth c s₁ B hml hv
  obtain ⟨rfl, hsz, hP, hK, hD0⟩ := hv
  have hx := B.exec
  have hb := B.bytes
  have hr := B.returns
  have hts0 := atoms_spec (ws := Cond.codeWith yL_peek cL_peek 4 (some .int) [(0, 9, 12, 19)] :: lw_G) B.pre
  have htab := vx_table (x := x) B (hts0 _ List.mem_cons_self)
  have hG : ∀ w ∈ lw_G, w.before _ s = true := fun w h => hts0 w (List.mem_cons_of_mem _ h)
  have hown : s.vm.findClass RL = some m.cls := findClass_of_methodNamed B.named
  have hlocks := B.notSynchronized
  subst hsz
  have hD := hD0.self (sz := s.heap.size)
  generalize hAe : va_A [(h0, .inr (11, [.ref h2, .ref h3, .ref h4, .ref h5, .ref h6, .int 0, .int 0])), (h3, .inr (1, [.ref h7, .ref h8, .ref h9, .ref h10])), (h7, .inl (y0, 32768, .inl (fun _ => 0))), (h10, .inr (9, [.ref h11, .ref h12, .int 0, .int 0, .int 0, .int 0])), (h12, .inl (y1, 3, .inl (fun _ => 0))), (h11, .inl (y2, 3, .inl (fun _ => 0))), (h9, .inr (5, [.int 304, .int 0, .int 0, .int 0, .int 0, .int 0])), (h8, .inr (7, [.int 0, .int 0, .int 0, .int 0, .int 0])), (h1, .inl (y3, 1, .inr (.inl (fun _ => 0))))] s.heap.size = A at hD ⊢
  have hA : ∀ q : Nat, s.heap.size ≤ q → A q := fun q h => by rw [← hAe]; exact Or.inr h
  have hS : va_S A s.heap s.heap [] := va_S.rf
  have hP : va_P (dC, dI) vwCl [(h0, .inr (11, [.ref h2, .ref h3, .ref h4, .ref h5, .ref h6, .int 0, .int 0])), (h3, .inr (1, [.ref h7, .ref h8, .ref h9, .ref h10])), (h7, .inl (y0, 32768, .inl (fun _ => 0))), (h10, .inr (9, [.ref h11, .ref h12, .int 0, .int 0, .int 0, .int 0])), (h12, .inl (y1, 3, .inl (fun _ => 0))), (h11, .inl (y2, 3, .inl (fun _ => 0))), (h9, .inr (5, [.int 304, .int 0, .int 0, .int 0, .int 0, .int 0])), (h8, .inr (7, [.int 0, .int 0, .int 0, .int 0, .int 0])), (h1, .inl (y3, 1, .inr (.inl (fun _ => 0))))] s.heap := hP
  have hl := lv_entry ([.ref h0, .int x0, .ref h1]) (n := 4) (Nat.le_of_ble_eq_true rfl)
  rw [lg_entry_eq]
  generalize (lg_sl ([.ref h0, .int x0, .ref h1]) ++ List.replicate (4 - (lg_sl ([.ref h0, .int x0, .ref h1])).length) Slot.unset).toArray = ls at hl ⊢
  have hl : lv_has ls 4 [(0, .ref h0), (1, .int x0), (2, .ref h1)] := hl
  refine lv_aload_n hx hb dL_peek_0 rfl (lv_at hl 2 rfl) ?_
  refine lv_iconst (v := 0) hx hb dL_peek_1 (by decide) ?_
  refine lv_aload_n hx hb dL_peek_2 rfl (lv_at hl 0 rfl) ?_
  refine lv_iload_n hx hb dL_peek_3 rfl (lv_at hl 1 rfl) ?_
  have hPc := hP.sub (ws' := [(h0, .inr (11, [.ref h2, .ref h3, .ref h4, .ref h5, .ref h6, .int 0, .int 0])), (h3, .inr (1, [.ref h7, .ref h8, .ref h9, .ref h10])), (h7, .inl (y0, 32768, .inl (fun _ => 0))), (h10, .inr (9, [.ref h11, .ref h12, .int 0, .int 0, .int 0, .int 0])), (h12, .inl (y1, 3, .inl (fun _ => 0))), (h11, .inl (y2, 3, .inl (fun _ => 0))), (h9, .inr (5, [.int 304, .int 0, .int 0, .int 0, .int 0, .int 0])), (h8, .inr (7, [.int 0, .int 0, .int 0, .int 0, .int 0]))]) [0, 1, 2, 3, 4, 5, 6, 7] rfl
  have hDc := hD.sub (ws' := [(h0, .inr (11, [.ref h2, .ref h3, .ref h4, .ref h5, .ref h6, .int 0, .int 0])), (h3, .inr (1, [.ref h7, .ref h8, .ref h9, .ref h10])), (h7, .inl (y0, 32768, .inl (fun _ => 0))), (h10, .inr (9, [.ref h11, .ref h12, .int 0, .int 0, .int 0, .int 0])), (h12, .inl (y1, 3, .inl (fun _ => 0))), (h11, .inl (y2, 3, .inl (fun _ => 0))), (h9, .inr (5, [.int 304, .int 0, .int 0, .int 0, .int 0, .int 0])), (h8, .inr (7, [.int 0, .int 0, .int 0, .int 0, .int 0]))]) [0, 1, 2, 3, 4, 5, 6, 7] (by decide) rfl
  have hKc := hK.sub (tys' := [(y0, .int), (y1, .int), (y2, .int)]) [0, 1, 2] rfl
  have hFc := va_free (wc := [(h0, .inr (11, [.ref h2, .ref h3, .ref h4, .ref h5, .ref h6, .int 0, .int 0])), (h3, .inr (1, [.ref h7, .ref h8, .ref h9, .ref h10])), (h7, .inl (y0, 32768, .inl (fun _ => 0))), (h10, .inr (9, [.ref h11, .ref h12, .int 0, .int 0, .int 0, .int 0])), (h12, .inl (y1, 3, .inl (fun _ => 0))), (h11, .inl (y2, 3, .inl (fun _ => 0))), (h9, .inr (5, [.int 304, .int 0, .int 0, .int 0, .int 0, .int 0])), (h8, .inr (7, [.int 0, .int 0, .int 0, .int 0, .int 0]))]) hD hS hA [0, 1, 2, 3, 4, 5, 6, 7] rfl
  refine va_calli (va_runV (As := [.int x0]) (rest := [.int 0, .ref h1]) ⟨hx, hb, hml, hown, hG⟩ (cX11_peek_3 l dC dI h0 h2 h3 h4 h5 h6 h7 h8 h9 h10 h11 h12 y0 y1 y2 s.heap.size x0 ix0) (cwV 1 hG (gV wd_1153 wd_1154 wd_1155 wd_1 wd_1156) rfl rfl rfl (by decide +kernel) ⟨Nat.le_of_ble_eq_true rfl, Nat.le_of_ble_eq_true rfl⟩) ⟨fun a U g mk q => by obtain ⟨q0, q1, qP, qK, qD⟩ := q; exact ⟨q0, q1, qP, va_K.moved (u := U) (U := U.calling g mk a) (Vm.Alike.refl U.vm) qK, qD⟩, va_recv hKc hPc (ci := 11) (q0 := 0) rfl rfl, fun U hU hW => ⟨rfl, by rw [hU], by rw [hU]; exact hPc, va_K.moved hW.alike hKc, hDc.weaken (fun _ _ _ _ => trivial)⟩⟩ rfl rfl hl.1 rfl (lv_room (Nat.le_of_ble_eq_true rfl)) dL_peek_4 ⟨by decide, by decide⟩) hS (fun q _ h => hFc q h) hFc (fun r1 u2 t H1 locs ht hvm hw hB hz1 hk1 hS => ?_)
  have hw : r1 = 0 ∧ True := hw
  obtain ⟨er1, -⟩ := hw
  obtain ⟨hP1, hK1, hD1⟩ := hB
  rw [ht] at hP1
  have hK1 := va_K.moved hvm.symm hK1
  obtain ⟨hP, hD⟩ := va_join (wr := [(h1, .inl (y3, 1, .inr (.inl (fun _ => 0))))]) (w1 := [(h0, .inr (11, [.ref h2, .ref h3, .ref h4, .ref h5, .ref h6, .int 0, .int 0])), (h3, .inr (1, [.ref h7, .ref h8, .ref h9, .ref h10])), (h7, .inl (y0, 32768, .inl (fun _ => 0))), (h10, .inr (9, [.ref h11, .ref h12, .int 0, .int 0, .int 0, .int 0])), (h12, .inl (y1, 3, .inl (fun _ => 0))), (h11, .inl (y2, 3, .inl (fun _ => 0))), (h9, .inr (5, [.int 304, .int 0, .int 0, .int 0, .int 0, .int 0])), (h8, .inr (7, [.int 0, .int 0, .int 0, .int 0, .int 0]))]) hP hD [0, 1, 2, 3, 4, 5, 6, 7] [8] rfl rfl (by decide) (by decide) hk1 hFc hP1 hD1
  have hK := (hK.sub (tys' := [(y3, .long)]) [3] rfl).app hK1
  generalize H1 = H at hP hS ⊢
  have hP : va_P (dC, dI) vwCl [(h1, .inl (y3, 1, .inr (.inl (fun _ => 0)))), (h0, .inr (11, [.ref h2, .ref h3, .ref h4, .ref h5, .ref h6, .int 0, .int 0])), (h3, .inr (1, [.ref h7, .ref h8, .ref h9, .ref h10])), (h7, .inl (y0, 32768, .inl (fun _ => 0))), (h10, .inr (9, [.ref h11, .ref h12, .int 0, .int 0, .int 0, .int 0])), (h12, .inl (y1, 3, .inl (fun _ => 0))), (h11, .inl (y2, 3, .inl (fun _ => 0))), (h9, .inr (5, [.int 304, .int 0, .int 0, .int 0, .int 0, .int 0])), (h8, .inr (7, [.int 0, .int 0, .int 0, .int 0, .int 0]))] H := hP
  have hD : va_D A [(h1, .inl (y3, 1, .inr (.inl (fun _ => 0)))), (h0, .inr (11, [.ref h2, .ref h3, .ref h4, .ref h5, .ref h6, .int 0, .int 0])), (h3, .inr (1, [.ref h7, .ref h8, .ref h9, .ref h10])), (h7, .inl (y0, 32768, .inl (fun _ => 0))), (h10, .inr (9, [.ref h11, .ref h12, .int 0, .int 0, .int 0, .int 0])), (h12, .inl (y1, 3, .inl (fun _ => 0))), (h11, .inl (y2, 3, .inl (fun _ => 0))), (h9, .inr (5, [.int 304, .int 0, .int 0, .int 0, .int 0, .int 0])), (h8, .inr (7, [.int 0, .int 0, .int 0, .int 0, .int 0]))] := hD
  have hK : va_K (dC, dI) vwCl [(y3, .long), (y0, .int), (y1, .int), (y2, .int)] s := hK
  subst er1
  refine lv_i2l (v := _) hx hb dL_peek_7 rfl ?_
  refine lv_valL (y := 0) (by decide +kernel) ?_
  refine va_last hx hb hK hP hD hS 0 0 rfl rfl (iv_in (by decide : iv 0 0 0) (by decide) (by decide) : vp_in 0 1) dL_peek_8 (fun H locs hP hD hS => ?_)
  have hP : va_P (dC, dI) vwCl [(h1, .inl (y3, 1, .inr (.inl (vp_updL (fun _ => 0) (0 : Int32).toNatClampNeg 0)))), (h0, .inr (11, [.ref h2, .ref h3, .ref h4, .ref h5, .ref h6, .int 0, .int 0])), (h3, .inr (1, [.ref h7, .ref h8, .ref h9, .ref h10])), (h7, .inl (y0, 32768, .inl (fun _ => 0))), (h10, .inr (9, [.ref h11, .ref h12, .int 0, .int 0, .int 0, .int 0])), (h12, .inl (y1, 3, .inl (fun _ => 0))), (h11, .inl (y2, 3, .inl (fun _ => 0))), (h9, .inr (5, [.int 304, .int 0, .int 0, .int 0, .int 0, .int 0])), (h8, .inr (7, [.int 0, .int 0, .int 0, .int 0, .int 0]))] H := hP
  have hD : va_D A [(h1, .inl (y3, 1, .inr (.inl (vp_updL (fun _ => 0) (0 : Int32).toNatClampNeg 0)))), (h0, .inr (11, [.ref h2, .ref h3, .ref h4, .ref h5, .ref h6, .int 0, .int 0])), (h3, .inr (1, [.ref h7, .ref h8, .ref h9, .ref h10])), (h7, .inl (y0, 32768, .inl (fun _ => 0))), (h10, .inr (9, [.ref h11, .ref h12, .int 0, .int 0, .int 0, .int 0])), (h12, .inl (y1, 3, .inl (fun _ => 0))), (h11, .inl (y2, 3, .inl (fun _ => 0))), (h9, .inr (5, [.int 304, .int 0, .int 0, .int 0, .int 0, .int 0])), (h8, .inr (7, [.int 0, .int 0, .int 0, .int 0, .int 0]))] := hD
  obtain ⟨f3, ef3⟩ : ∃ z, z = vp_updL (fun _ => 0) (0 : Int32).toNatClampNeg 0 := ⟨_, rfl⟩
  rw [← ef3] at hP hD
  refine lv_goto (tgt := 15) hx hb dL_peek_9 (by decide) ?_
  refine lv_iconst (v := 0) hx hb dL_peek_15 (by decide) ?_
  have hP9 := hP.sub (ws' := [(h0, .inr (11, [.ref h2, .ref h3, .ref h4, .ref h5, .ref h6, .int 0, .int 0])), (h3, .inr (1, [.ref h7, .ref h8, .ref h9, .ref h10])), (h7, .inl (y0, 32768, .inl (fun _ => 0))), (h10, .inr (9, [.ref h11, .ref h12, .int 0, .int 0, .int 0, .int 0])), (h12, .inl (y1, 3, .inl (fun _ => 0))), (h11, .inl (y2, 3, .inl (fun _ => 0))), (h9, .inr (5, [.int 304, .int 0, .int 0, .int 0, .int 0, .int 0])), (h8, .inr (7, [.int 0, .int 0, .int 0, .int 0, .int 0])), (h1, .inl (y3, 1, .inr (.inl f3)))]) [1, 2, 3, 4, 5, 6, 7, 8, 0] rfl
  have hD9 := hD.sub (ws' := [(h0, .inr (11, [.ref h2, .ref h3, .ref h4, .ref h5, .ref h6, .int 0, .int 0])), (h3, .inr (1, [.ref h7, .ref h8, .ref h9, .ref h10])), (h7, .inl (y0, 32768, .inl (fun _ => 0))), (h10, .inr (9, [.ref h11, .ref h12, .int 0, .int 0, .int 0, .int 0])), (h12, .inl (y1, 3, .inl (fun _ => 0))), (h11, .inl (y2, 3, .inl (fun _ => 0))), (h9, .inr (5, [.int 304, .int 0, .int 0, .int 0, .int 0, .int 0])), (h8, .inr (7, [.int 0, .int 0, .int 0, .int 0, .int 0])), (h1, .inl (y3, 1, .inr (.inl f3)))]) [1, 2, 3, 4, 5, 6, 7, 8, 0] (by decide) rfl
  have hK9 := hK.sub (tys' := [(y0, .int), (y1, .int), (y2, .int), (y3, .long)]) [1, 2, 3, 0] rfl
  exact W.iret (v := 0) hx hb hr (fun t ht hW => ⟨⟨0, f3, rfl, ⟨rfl, (kuL ef3 (by decide)), trivial⟩, by rw [ht]; exact hP9, va_K.moved hW.alike hK9, hD9⟩, hS.F ht⟩) hS.2.2 dL_peek_16
set_option maxHeartbeats 4000000 in
set_option maxRecDepth 100000 in
theorem cX11_poke_1 (l : Launch) (hst : l.stackTraces = false) (dC : Nat → ClassId) (dI : Nat → Nat → Nat) (adK adV : Nat → Nat) (h0 h1 h2 h3 h4 h5 : Nat) (sz : Nat) (x0 x1 : Int32) (ix0 : iv x0 (-2147483648) (-1)) (ix1 : iv x1 (-2147483648) (-1)) : vx_Met l yX11_poke (Cond.code yX11_poke cX11_poke 3 (some .boolean) :: lw_G) ({ frames := 6, cells := 1, slots := 6, locals := 82 }) (va_Pc [.ref h0, .int x0, .int x1] (fun U => U.heap.size = sz ∧ va_P (dC, dI) vwCl [(h0, .inr (11, [.ref h1, .ref h2, .ref h3, .ref h4, .ref h5, .int 0, .int 0]))] U.heap ∧ va_K (dC, dI) vwCl [] U ∧ va_D (fun _ => True) [(h0, .inr (11, [.ref h1, .ref h2, .ref h3, .ref h4, .ref h5, .int 0, .int 0]))] ∧ ev adK adV (va_A [(h0, .inr (11, [.ref h1, .ref h2, .ref h3, .ref h4, .ref h5, .int 0, .int 0]))] sz) U U.heap)) (va_Qi (fun (_ : Int32) (_ : Unit) => False) (fun _ _ => True) (va_A [(h0, .inr (11, [.ref h1, .ref h2, .ref h3, .ref h4, .ref h5, .int 0, .int 0]))] sz)) (vx_X (fun (_ : Unit) => True) (fun (E : String) (_ : Unit) (t : State) => E = "java/lang/IndexOutOfBoundsException" ∧ va_P (dC, dI) vwCl [(h0, .inr (11, [.ref h1, .ref h2, .ref h3, .ref h4, .ref h5, .int 0, .int 0]))] t.heap ∧ va_K (dC, dI) vwCl [] t ∧ va_D (va_A [(h0, .inr (11, [.ref h1, .ref h2, .ref h3, .ref h4, .ref h5, .int 0, .int 0]))] sz) [(h0, .inr (11, [.ref h1, .ref h2, .ref h3, .ref h4, .ref h5, .int 0, .int 0]))]) (va_A [(h0, .inr (11, [.ref h1, .ref h2, .ref h3, .ref h4, .ref h5, .int 0, .int 0]))] sz)) 1 6 (va_A [(h0, .inr (11, [.ref h1, .ref h2, .ref h3, .ref h4, .ref h5, .int 0, .int 0]))] sz) := by
  refine vx_ofW (cc := cX11_poke) (maxL := 3) (ret := (some .boolean)) (by decide) rfl ?_
  intro p e s m args below meth c s₁ B hml htab hv
  obtain ⟨rfl, hsz, hP, hK, hD0, hE⟩ := hv
  have hx := B.exec
  have hb := B.bytes
  have hr := B.returns
  have hts0 := atoms_spec (ws := Cond.code yX11_poke cX11_poke 3 (some .boolean) :: lw_G) B.pre
  have hG : ∀ w ∈ lw_G, w.before _ s = true := fun w h => hts0 w (List.mem_cons_of_mem _ h)
  have hown : s.vm.findClass RX11 = some m.cls := findClass_of_methodNamed B.named
  have hlocks := B.notSynchronized
  subst hsz
  have hD := hD0.self (sz := s.heap.size)
  generalize hAe : va_A [(h0, .inr (11, [.ref h1, .ref h2, .ref h3, .ref h4, .ref h5, .int 0, .int 0]))] s.heap.size = A at hD hE ⊢
  have hA : ∀ q : Nat, s.heap.size ≤ q → A q := fun q h => by rw [← hAe]; exact Or.inr h
  have hS : va_S A s.heap s.heap [] := va_S.rf
  have hP : va_P (dC, dI) vwCl [(h0, .inr (11, [.ref h1, .ref h2, .ref h3, .ref h4, .ref h5, .int 0, .int 0]))] s.heap := hP
  have hl := lv_entry ([.ref h0, .int x0, .int x1]) (n := 3) (Nat.le_of_ble_eq_true rfl)
  rw [lg_entry_eq]
  generalize (lg_sl ([.ref h0, .int x0, .int x1]) ++ List.replicate (3 - (lg_sl ([.ref h0, .int x0, .int x1])).length) Slot.unset).toArray = ls at hl ⊢
  have hl : lv_has ls 3 [(0, .ref h0), (1, .int x0), (2, .int x1)] := hl
  refine lv_iload_n hx hb dX11_poke_0 rfl (lv_at hl 1 rfl) ?_
  refine lv_if_lt (tgt := 10) hx hb dX11_poke_1 (by decide) (fun _ => ?_) (fun c => absurd (iv_lt ix0 (by decide : iv 0 0 0) (by decide)) c)
  have hP9 := hP.sub (ws' := [(h0, .inr (11, [.ref h1, .ref h2, .ref h3, .ref h4, .ref h5, .int 0, .int 0]))]) [0] rfl
  have hD9 := hD.sub (ws' := [(h0, .inr (11, [.ref h1, .ref h2, .ref h3, .ref h4, .ref h5, .int 0, .int 0]))]) [0] (by decide) rfl
  have hK9 := hK.sub (tys' := []) [] rfl
  refine vx_throwS (own := RX11) (cls := "java/lang/IndexOutOfBoundsException") (text := evT4) (names := ["java/lang/RuntimeException", "java/lang/Exception"]) hx hb hst hown (by decide) (by decide) (hG _ wd_1126) (hG _ wd_24) (evR4 hE) (evA1 hE hG) evG1_106 hE.2.2.2.1 hE.2.2.2.2.1 hS (by rw [hml]; exact hl.1) dX11_poke_10 dX11_poke_13 dX11_poke_14 dX11_poke_16 dX11_poke_19 (fun x hx9 => (htab x hx9).elim) (by decide) (by decide) (by decide) (by decide) hlocks (fun t hvm9 hz9 hk9 => ⟨(), trivial, ⟨rfl, hP9.kept (fun k q hk => hk9 q.1 (vx_lt hP9 hk)), va_K.moved hvm9 hK9, hD9⟩, Nat.le_trans hS.1 hz9, fun q hq hA9 => (hk9 q (Nat.lt_of_lt_of_le hq hS.1)).trans (hS.2.1 q hq hA9)⟩) hS.2.2 (by decide) (by decide)
set_option maxHeartbeats 4000000 in
set_option maxRecDepth 100000 in
theorem cL_poke_1 (l : Launch) (hst : l.stackTraces = false) (dC : Nat → ClassId) (dI : Nat → Nat → Nat) (adK adV : Nat → Nat) (h0 h1 h2 h3 h4 h5 h6 : Nat) (sz : Nat) (x0 x1 : Int32) (ix0 : iv x0 (-2147483648) (-1)) (ix1 : iv x1 (-2147483648) (-1)) : Met l yL_poke (Cond.codeWith yL_poke cL_poke 5 (some .int) [(0, 17, 20, 19)] :: lw_G) ({ frames := 7, cells := 1, slots := 6, locals := 104 }) (va_Pc [.ref h0, .int x0, .int x1, .ref h1] (fun U => U.heap.size = sz ∧ va_P (dC, dI) vwCl [(h0, .inr (11, [.ref h2, .ref h3, .ref h4, .ref h5, .ref h6, .int 0, .int 0]))] U.heap ∧ va_K (dC, dI) vwCl [] U ∧ va_D (fun _ => True) [(h0, .inr (11, [.ref h2, .ref h3, .ref h4, .ref h5, .ref h6, .int 0, .int 0]))] ∧ ev adK adV (va_A [(h0, .inr (11, [.ref h2, .ref h3, .ref h4, .ref h5, .ref h6, .int 0, .int 0]))] sz) U U.heap)) (va_Qi (fun (r : Int32) (u : Unit) => r = 1 ∧ True) (fun (u : Unit) (t : State) => va_P (dC, dI) vwCl [(h0, .inr (11, [.ref h2, .ref h3, .ref h4, .ref h5, .ref h6, .int 0, .int 0]))] t.heap ∧ va_K (dC, dI) vwCl [] t ∧ va_D (va_A [(h0, .inr (11, [.ref h2, .ref h3, .ref h4, .ref h5, .ref h6, .int 0, .int 0]))] sz) [(h0, .inr (11, [.ref h2, .ref h3, .ref h4, .ref h5, .ref h6, .int 0, .int 0]))]) (va_A [(h0, .inr (11, [.ref h2, .ref h3, .ref h4, .ref h5, .ref h6, .int 0, .int 0]))] sz)) 1 6 (va_A [(h0, .inr (11, [.ref h2, .ref h3, .ref h4, .ref h5, .ref h6, .int 0, .int 0]))] sz) := by
  refine va_MetW (cc := cL_poke) (maxL := 5) (ret := (some .int)) (by decide) rfl ?_
  intro p e s m args below meth c s₁ B hml hv
  obtain ⟨rfl, hsz, hP, hK, hD0, hE⟩ := hv
  have hx := B.exec
  have hb := B.bytes
  have hr := B.returns
  have hts0 := atoms_spec (ws := Cond.codeWith yL_poke cL_poke 5 (some .int) [(0, 17, 20, 19)] :: lw_G) B.pre
  have htab := vx_table (x := x) B (hts0 _ List.mem_cons_self)
  have hG : ∀ w ∈ lw_G, w.before _ s = true := fun w h => hts0 w (List.mem_cons_of_mem _ h)
  have hown : s.vm.findClass RL = some m.cls := findClass_of_methodNamed B.named
  have hlocks := B.notSynchronized
  subst hsz
  have hD := hD0.self (sz := s.heap.size)
  generalize hAe : va_A [(h0, .inr (11, [.ref h2, .ref h3, .ref h4, .ref h5, .ref h6, .int 0, .int 0]))] s.heap.size = A at hD hE ⊢
  have hA : ∀ q : Nat, s.heap.size ≤ q → A q := fun q h => by rw [← hAe]; exact Or.inr h
  have hS : va_S A s.heap s.heap [] := va_S.rf
  have hP : va_P (dC, dI) vwCl [(h0, .inr (11, [.ref h2, .ref h3, .ref h4, .ref h5, .ref h6, .int 0, .int 0]))] s.heap := hP
  have hl := lv_entry ([.ref h0, .int x0, .int x1, .ref h1]) (n := 5) (Nat.le_of_ble_eq_true rfl)
  rw [lg_entry_eq]
  generalize (lg_sl ([.ref h0, .int x0, .int x1, .ref h1]) ++ List.replicate (5 - (lg_sl ([.ref h0, .int x0, .int x1, .ref h1])).length) Slot.unset).toArray = ls at hl ⊢
  have hl : lv_has ls 5 [(0, .ref h0), (1, .int x0), (2, .int x1), (3, .ref h1)] := hl
  refine lv_aload_n hx hb dL_poke_0 rfl (lv_at hl 3 rfl) ?_
  refine lv_iconst (v := 0) hx hb dL_poke_1 (by decide) ?_
  refine lv_aload_n hx hb dL_poke_2 rfl (lv_at hl 0 rfl) ?_
  refine lv_iload_n hx hb dL_poke_3 rfl (lv_at hl 1 rfl) ?_
  refine lv_iload_n hx hb dL_poke_4 rfl (lv_at hl 2 rfl) ?_
  have hPc := hP.sub (ws' := [(h0, .inr (11, [.ref h2, .ref h3, .ref h4, .ref h5, .ref h6, .int 0, .int 0]))]) [0] rfl
  have hDc := hD.sub (ws' := [(h0, .inr (11, [.ref h2, .ref h3, .ref h4, .ref h5, .ref h6, .int 0, .int 0]))]) [0] (by decide) rfl
  have hKc := hK.sub (tys' := []) [] rfl
  have hFc := va_free (wc := [(h0, .inr (11, [.ref h2, .ref h3, .ref h4, .ref h5, .ref h6, .int 0, .int 0]))]) hD hS hA [0] rfl
  refine vx_calli (vx_runV (As := [.int x0, .int x1]) (rest := [.int 0, .ref h1]) ⟨hx, hb, hml, hown, hG⟩ (cX11_poke_1 l hst dC dI adK adV h0 h2 h3 h4 h5 h6 s.heap.size x0 x1 ix0 ix1) (cwV 2 hG (gV wd_1166 wd_1167 wd_1168 wd_1 wd_1169) rfl rfl rfl (by decide +kernel) ⟨Nat.le_of_ble_eq_true rfl, Nat.le_of_ble_eq_true rfl⟩) ⟨fun a U g mk q => by obtain ⟨q0, q1, qP, qK, qD, qE⟩ := q; exact ⟨q0, q1, qP, va_K.moved (u := U) (U := U.calling g mk a) (Vm.Alike.refl U.vm) qK, qD, qE.same rfl⟩, va_recv hKc hPc (ci := 11) (q0 := 0) rfl rfl, fun U hU hW => ⟨rfl, by rw [hU], by rw [hU]; exact hPc, va_K.moved hW.alike hKc, hDc.weaken (fun _ _ _ _ => trivial), by rw [hU]; exact ((hE.kept hS.2.1).narrow hFc).warm hW⟩⟩ rfl rfl hl.1 rfl (lv_room (Nat.le_of_ble_eq_true rfl)) dL_poke_5 ⟨by decide, by decide⟩) hS (fun q _ h => hFc q h) hFc (fun q _ h => hFc q h) (fun E9 ce q1 u9 t H1 locs ht hvm hpx hB hz1 hk1 hS hce hcv hcl => ?_) (fun r u t H1 locs ht hvm hw hB hz1 hk1 hS => hw.elim)
  obtain ⟨rfl, hP1, hK1, hD1⟩ := hB
  rw [ht] at hP1
  have hK1 := va_K.moved hvm.symm hK1
  obtain ⟨hP, hD⟩ := va_join (wr := []) (w1 := [(h0, .inr (11, [.ref h2, .ref h3, .ref h4, .ref h5, .ref h6, .int 0, .int 0]))]) hP hD [0] [] rfl rfl (by decide) (by decide) hk1 hFc hP1 hD1
  have hK := (hK.sub (tys' := []) [] rfl).app hK1
  generalize H1 = H at hP hS hce ⊢
  have hP : va_P (dC, dI) vwCl [(h0, .inr (11, [.ref h2, .ref h3, .ref h4, .ref h5, .ref h6, .int 0, .int 0]))] H := hP
  have hD : va_D A [(h0, .inr (11, [.ref h2, .ref h3, .ref h4, .ref h5, .ref h6, .int 0, .int 0]))] := hD
  have hK : va_K (dC, dI) vwCl [] s := hK
  refine vx_widen (k := 1) (n := 6) (by decide) (by decide) ?_
  refine vx_catch (name := "java/lang/IndexOutOfBoundsException") hown [] { startPc := 0, endPc := 17, handlerPc := 20, catchType := 19 } [] (by rw [htab]; rfl) (fun z hz => nomatch hz) (by decide) (by decide) (hG _ wd_1121) (evC1 hE) hce hcv hcl ?_
  refine lv_astore (lv' := [(4, .ref q1), (0, .ref h0), (1, .int x0), (2, .int x1), (3, .ref h1)]) hx hb dL_poke_20 hl (by decide) rfl (fun ls hl => ?_)
  refine lv_iconst (v := 1) hx hb dL_poke_22 (by decide) ?_
  have hP9 := hP.sub (ws' := [(h0, .inr (11, [.ref h2, .ref h3, .ref h4, .ref h5, .ref h6, .int 0, .int 0]))]) [0] rfl
  have hD9 := hD.sub (ws' := [(h0, .inr (11, [.ref h2, .ref h3, .ref h4, .ref h5, .ref h6, .int 0, .int 0]))]) [0] (by decide) rfl
  have hK9 := hK.sub (tys' := []) [] rfl
  refine W.widen (k := 1) (n := 6) (by decide) (by decide) ?_
  exact W.iret (v := 1) hx hb hr (fun t ht hW => ⟨⟨1, (), rfl, ⟨rfl, trivial⟩, by rw [ht]; exact hP9, va_K.moved hW.alike hK9, hD9⟩, hS.F ht⟩) hS.2.2 dL_poke_23
set_option maxHeartbeats 4000000 in
set_option maxRecDepth 100000 in
theorem cX11_poke_2 (l : Launch) (hst : l.stackTraces = false) (dC : Nat → ClassId) (dI : Nat → Nat → Nat) (adK adV : Nat → Nat) (h0 h1 h2 h3 h4 h5 : Nat) (sz : Nat) (x0 x1 : Int32) (ix0 : iv x0 (-2147483648) (-1)) (ix1 : iv x1 256 2147483647) : vx_Met l yX11_poke (Cond.code yX11_poke cX11_poke 3 (some .boolean) :: lw_G) ({ frames := 6, cells := 1, slots := 6, locals := 82 }) (va_Pc [.ref h0, .int x0, .int x1] (fun U => U.heap.size = sz ∧ va_P (dC, dI) vwCl [(h0, .inr (11, [.ref h1, .ref h2, .ref h3, .ref h4, .ref h5, .int 0, .int 0]))] U.heap ∧ va_K (dC, dI) vwCl [] U ∧ va_D (fun _ => True) [(h0, .inr (11, [.ref h1, .ref h2, .ref h3, .ref h4, .ref h5, .int 0, .int 0]))] ∧ ev adK adV (va_A [(h0, .inr (11, [.ref h1, .ref h2, .ref h3, .ref h4, .ref h5, .int 0, .int 0]))] sz) U U.heap)) (va_Qi (fun (_ : Int32) (_ : Unit) => False) (fun _ _ => True) (va_A [(h0, .inr (11, [.ref h1, .ref h2, .ref h3, .ref h4, .ref h5, .int 0, .int 0]))] sz)) (vx_X (fun (_ : Unit) => True) (fun (E : String) (_ : Unit) (t : State) => E = "java/lang/IndexOutOfBoundsException" ∧ va_P (dC, dI) vwCl [(h0, .inr (11, [.ref h1, .ref h2, .ref h3, .ref h4, .ref h5, .int 0, .int 0]))] t.heap ∧ va_K (dC, dI) vwCl [] t ∧ va_D (va_A [(h0, .inr (11, [.ref h1, .ref h2, .ref h3, .ref h4, .ref h5, .int 0, .int 0]))] sz) [(h0, .inr (11, [.ref h1, .ref h2, .ref h3, .ref h4, .ref h5, .int 0, .int 0]))]) (va_A [(h0, .inr (11, [.ref h1, .ref h2, .ref h3, .ref h4, .ref h5, .int 0, .int 0]))] sz)) 1 6 (va_A [(h0, .inr (11, [.ref h1, .ref h2, .ref h3, .ref h4, .ref h5, .int 0, .int 0]))] sz) := by
  refine vx_ofW (cc := cX11_poke) (maxL := 3) (ret := (some .boolean)) (by decide) rfl ?_
  intro p e s m args below meth c s₁ B hml htab hv
  obtain ⟨rfl, hsz, hP, hK, hD0, hE⟩ := hv
  have hx := B.exec
  have hb := B.bytes
  have hr := B.returns
  have hts0 := atoms_spec (ws := Cond.code yX11_poke cX11_poke 3 (some .boolean) :: lw_G) B.pre
  have hG : ∀ w ∈ lw_G, w.before _ s = true := fun w h => hts0 w (List.mem_cons_of_mem _ h)
  have hown : s.vm.findClass RX11 = some m.cls := findClass_of_methodNamed B.named
  have hlocks := B.notSynchronized
  subst hsz
  have hD := hD0.self (sz := s.heap.size)
  generalize hAe : va_A [(h0, .inr (11, [.ref h1, .ref h2, .ref h3, .ref h4, .ref h5, .int 0, .int 0]))] s.heap.size = A at hD hE ⊢
  have hA : ∀ q : Nat, s.heap.size ≤ q → A q := fun q h => by rw [← hAe]; exact Or.inr h
  have hS : va_S A s.heap s.heap [] := va_S.rf
  have hP : va_P (dC, dI) vwCl [(h0, .inr (11, [.ref h1, .ref h2, .ref h3, .ref h4, .ref h5, .int 0, .int 0]))] s.heap := hP
  have hl := lv_entry ([.ref h0, .int x0, .int x1]) (n := 3) (Nat.le_of_ble_eq_true rfl)
  rw [lg_entry_eq]
  generalize (lg_sl ([.ref h0, .int x0, .int x1]) ++ List.replicate (3 - (lg_sl ([.ref h0, .int x0, .int x1])).length) Slot.unset).toArray = ls at hl ⊢
  have hl : lv_has ls 3 [(0, .ref h0), (1, .int x0), (2, .int x1)] := hl
  refine lv_iload_n hx hb dX11_poke_0 rfl (lv_at hl 1 rfl) ?_
  refine lv_if_lt (tgt := 10) hx hb dX11_poke_1 (by decide) (fun _ => ?_) (fun c => absurd (iv_lt ix0 (by decide : iv 0 0 0) (by decide)) c)
  have hP9 := hP.sub (ws' := [(h0, .inr (11, [.ref h1, .ref h2, .ref h3, .ref h4, .ref h5, .int 0, .int 0]))]) [0] rfl
  have hD9 := hD.sub (ws' := [(h0, .inr (11, [.ref h1, .ref h2, .ref h3, .ref h4, .ref h5, .int 0, .int 0]))]) [0] (by decide) rfl
  have hK9 := hK.sub (tys' := []) [] rfl
  refine vx_throwS (own := RX11) (cls := "java/lang/IndexOutOfBoundsException") (text := evT4) (names := ["java/lang/RuntimeException", "java/lang/Exception"]) hx hb hst hown (by decide) (by decide) (hG _ wd_1126) (hG _ wd_24) (evR4 hE) (evA1 hE hG) evG1_106 hE.2.2.2.1 hE.2.2.2.2.1 hS (by rw [hml]; exact hl.1) dX11_poke_10 dX11_poke_13 dX11_poke_14 dX11_poke_16 dX11_poke_19 (fun x hx9 => (htab x hx9).elim) (by decide) (by decide) (by decide) (by decide) hlocks (fun t hvm9 hz9 hk9 => ⟨(), trivial, ⟨rfl, hP9.kept (fun k q hk => hk9 q.1 (vx_lt hP9 hk)), va_K.moved hvm9 hK9, hD9⟩, Nat.le_trans hS.1 hz9, fun q hq hA9 => (hk9 q (Nat.lt_of_lt_of_le hq hS.1)).trans (hS.2.1 q hq hA9)⟩) hS.2.2 (by decide) (by decide)
set_option maxHeartbeats 4000000 in
set_option maxRecDepth 100000 in
theorem cL_poke_2 (l : Launch) (hst : l.stackTraces = false) (dC : Nat → ClassId) (dI : Nat → Nat → Nat) (adK adV : Nat → Nat) (h0 h1 h2 h3 h4 h5 h6 : Nat) (sz : Nat) (x0 x1 : Int32) (ix0 : iv x0 (-2147483648) (-1)) (ix1 : iv x1 256 2147483647) : Met l yL_poke (Cond.codeWith yL_poke cL_poke 5 (some .int) [(0, 17, 20, 19)] :: lw_G) ({ frames := 7, cells := 1, slots := 6, locals := 104 }) (va_Pc [.ref h0, .int x0, .int x1, .ref h1] (fun U => U.heap.size = sz ∧ va_P (dC, dI) vwCl [(h0, .inr (11, [.ref h2, .ref h3, .ref h4, .ref h5, .ref h6, .int 0, .int 0]))] U.heap ∧ va_K (dC, dI) vwCl [] U ∧ va_D (fun _ => True) [(h0, .inr (11, [.ref h2, .ref h3, .ref h4, .ref h5, .ref h6, .int 0, .int 0]))] ∧ ev adK adV (va_A [(h0, .inr (11, [.ref h2, .ref h3, .ref h4, .ref h5, .ref h6, .int 0, .int 0]))] sz) U U.heap)) (va_Qi (fun (r : Int32) (u : Unit) => r = 1 ∧ True) (fun (u : Unit) (t : State) => va_P (dC, dI) vwCl [(h0, .inr (11, [.ref h2, .ref h3, .ref h4, .ref h5, .ref h6, .int 0, .int 0]))] t.heap ∧ va_K (dC, dI) vwCl [] t ∧ va_D (va_A [(h0, .inr (11, [.ref h2, .ref h3, .ref h4, .ref h5, .ref h6, .int 0, .int 0]))] sz) [(h0, .inr (11, [.ref h2, .ref h3, .ref h4, .ref h5, .ref h6, .int 0, .int 0]))]) (va_A [(h0, .inr (11, [.ref h2, .ref h3, .ref h4, .ref h5, .ref h6, .int 0, .int 0]))] sz)) 1 6 (va_A [(h0, .inr (11, [.ref h2, .ref h3, .ref h4, .ref h5, .ref h6, .int 0, .int 0]))] sz) := by
  refine va_MetW (cc := cL_poke) (maxL := 5) (ret := (some .int)) (by decide) rfl ?_
  intro p e s m args below meth c s₁ B hml hv
  obtain ⟨rfl, hsz, hP, hK, hD0, hE⟩ := hv
  have hx := B.exec
  have hb := B.bytes
  have hr := B.returns
  have hts0 := atoms_spec (ws := Cond.codeWith yL_poke cL_poke 5 (some .int) [(0, 17, 20, 19)] :: lw_G) B.pre
  have htab := vx_table (x := x) B (hts0 _ List.mem_cons_self)
  have hG : ∀ w ∈ lw_G, w.before _ s = true := fun w h => hts0 w (List.mem_cons_of_mem _ h)
  have hown : s.vm.findClass RL = some m.cls := findClass_of_methodNamed B.named
  have hlocks := B.notSynchronized
  subst hsz
  have hD := hD0.self (sz := s.heap.size)
  generalize hAe : va_A [(h0, .inr (11, [.ref h2, .ref h3, .ref h4, .ref h5, .ref h6, .int 0, .int 0]))] s.heap.size = A at hD hE ⊢
  have hA : ∀ q : Nat, s.heap.size ≤ q → A q := fun q h => by rw [← hAe]; exact Or.inr h
  have hS : va_S A s.heap s.heap [] := va_S.rf
  have hP : va_P (dC, dI) vwCl [(h0, .inr (11, [.ref h2, .ref h3, .ref h4, .ref h5, .ref h6, .int 0, .int 0]))] s.heap := hP
  have hl := lv_entry ([.ref h0, .int x0, .int x1, .ref h1]) (n := 5) (Nat.le_of_ble_eq_true rfl)
  rw [lg_entry_eq]
  generalize (lg_sl ([.ref h0, .int x0, .int x1, .ref h1]) ++ List.replicate (5 - (lg_sl ([.ref h0, .int x0, .int x1, .ref h1])).length) Slot.unset).toArray = ls at hl ⊢
  have hl : lv_has ls 5 [(0, .ref h0), (1, .int x0), (2, .int x1), (3, .ref h1)] := hl
  refine lv_aload_n hx hb dL_poke_0 rfl (lv_at hl 3 rfl) ?_
  refine lv_iconst (v := 0) hx hb dL_poke_1 (by decide) ?_
  refine lv_aload_n hx hb dL_poke_2 rfl (lv_at hl 0 rfl) ?_
  refine lv_iload_n hx hb dL_poke_3 rfl (lv_at hl 1 rfl) ?_
  refine lv_iload_n hx hb dL_poke_4 rfl (lv_at hl 2 rfl) ?_
  have hPc := hP.sub (ws' := [(h0, .inr (11, [.ref h2, .ref h3, .ref h4, .ref h5, .ref h6, .int 0, .int 0]))]) [0] rfl
  have hDc := hD.sub (ws' := [(h0, .inr (11, [.ref h2, .ref h3, .ref h4, .ref h5, .ref h6, .int 0, .int 0]))]) [0] (by decide) rfl
  have hKc := hK.sub (tys' := []) [] rfl
  have hFc := va_free (wc := [(h0, .inr (11, [.ref h2, .ref h3, .ref h4, .ref h5, .ref h6, .int 0, .int 0]))]) hD hS hA [0] rfl
  refine vx_calli (vx_runV (As := [.int x0, .int x1]) (rest := [.int 0, .ref h1]) ⟨hx, hb, hml, hown, hG⟩ (cX11_poke_2 l hst dC dI adK adV h0 h2 h3 h4 h5 h6 s.heap.size x0 x1 ix0 ix1) (cwV 2 hG (gV wd_1166 wd_1167 wd_1168 wd_1 wd_1169) rfl rfl rfl (by decide +kernel) ⟨Nat.le_of_ble_eq_true rfl, Nat.le_of_ble_eq_true rfl⟩) ⟨fun a U g mk q => by obtain ⟨q0, q1, qP, qK, qD, qE⟩ := q; exact ⟨q0, q1, qP, va_K.moved (u := U) (U := U.calling g mk a) (Vm.Alike.refl U.vm) qK, qD, qE.same rfl⟩, va_recv hKc hPc (ci := 11) (q0 := 0) rfl rfl, fun U hU hW => ⟨rfl, by rw [hU], by rw [hU]; exact hPc, va_K.moved hW.alike hKc, hDc.weaken (fun _ _ _ _ => trivial), by rw [hU]; exact ((hE.kept hS.2.1).narrow hFc).warm hW⟩⟩ rfl rfl hl.1 rfl (lv_room (Nat.le_of_ble_eq_true rfl)) dL_poke_5 ⟨by decide, by decide⟩) hS (fun q _ h => hFc q h) hFc (fun q _ h => hFc q h) (fun E9 ce q1 u9 t H1 locs ht hvm hpx hB hz1 hk1 hS hce hcv hcl => ?_) (fun r u t H1 locs ht hvm hw hB hz1 hk1 hS => hw.elim)
  obtain ⟨rfl, hP1, hK1, hD1⟩ := hB
  rw [ht] at hP1
  have hK1 := va_K.moved hvm.symm hK1
  obtain ⟨hP, hD⟩ := va_join (wr := []) (w1 := [(h0, .inr (11, [.ref h2, .ref h3, .ref h4, .ref h5, .ref h6, .int 0, .int 0]))]) hP hD [0] [] rfl rfl (by decide) (by decide) hk1 hFc hP1 hD1
  have hK := (hK.sub (tys' := []) [] rfl).app hK1
  generalize H1 = H at hP hS hce ⊢
  have hP : va_P (dC, dI) vwCl [(h0, .inr (11, [.ref h2, .ref h3, .ref h4, .ref h5, .ref h6, .int 0, .int 0]))] H := hP
  have hD : va_D A [(h0, .inr (11, [.ref h2, .ref h3, .ref h4, .ref h5, .ref h6, .int 0, .int 0]))] := hD
  have hK : va_K (dC, dI) vwCl [] s := hK
  refine vx_widen (k := 1) (n := 6) (by decide) (by decide) ?_
  refine vx_catch (name := "java/lang/IndexOutOfBoundsException") hown [] { startPc := 0, endPc := 17, handlerPc := 20, catchType := 19 } [] (by rw [htab]; rfl) (fun z hz => nomatch hz) (by decide) (by decide) (hG _ wd_1121) (evC1 hE) hce hcv hcl ?_
  refine lv_astore (lv' := [(4, .ref q1), (0, .ref h0), (1, .int x0), (2, .int x1), (3, .ref h1)]) hx hb dL_poke_20 hl (by decide) rfl (fun ls hl => ?_)
  refine lv_iconst (v := 1) hx hb dL_poke_22 (by decide) ?_
  have hP9 := hP.sub (ws' := [(h0, .inr (11, [.ref h2, .ref h3, .ref h4, .ref h5, .ref h6, .int 0, .int 0]))]) [0] rfl
  have hD9 := hD.sub (ws' := [(h0, .inr (11, [.ref h2, .ref h3, .ref h4, .ref h5, .ref h6, .int 0, .int 0]))]) [0] (by decide) rfl
  have hK9 := hK.sub (tys' := []) [] rfl
  refine W.widen (k := 1) (n := 6) (by decide) (by decide) ?_
  exact W.iret (v := 1) hx hb hr (fun t ht hW => ⟨⟨1, (), rfl, ⟨rfl, trivial⟩, by rw [ht]; exact hP9, va_K.moved hW.alike hK9, hD9⟩, hS.F ht⟩) hS.2.2 dL_poke_23
set_option maxHeartbeats 4000000 in
set_option maxRecDepth 100000 in
theorem cX11_poke_3 (l : Launch) (hst : l.stackTraces = false) (dC : Nat → ClassId) (dI : Nat → Nat → Nat) (adK adV : Nat → Nat) (h0 h1 h2 h3 h4 h5 : Nat) (sz : Nat) (x0 x1 : Int32) (ix0 : iv x0 (-2147483648) (-1)) (ix1 : iv x1 0 255) : vx_Met l yX11_poke (Cond.code yX11_poke cX11_poke 3 (some .boolean) :: lw_G) ({ frames := 6, cells := 1, slots := 6, locals := 82 }) (va_Pc [.ref h0, .int x0, .int x1] (fun U => U.heap.size = sz ∧ va_P (dC, dI) vwCl [(h0, .inr (11, [.ref h1, .ref h2, .ref h3, .ref h4, .ref h5, .int 0, .int 0]))] U.heap ∧ va_K (dC, dI) vwCl [] U ∧ va_D (fun _ => True) [(h0, .inr (11, [.ref h1, .ref h2, .ref h3, .ref h4, .ref h5, .int 0, .int 0]))] ∧ ev adK adV (va_A [(h0, .inr (11, [.ref h1, .ref h2, .ref h3, .ref h4, .ref h5, .int 0, .int 0]))] sz) U U.heap)) (va_Qi (fun (_ : Int32) (_ : Unit) => False) (fun _ _ => True) (va_A [(h0, .inr (11, [.ref h1, .ref h2, .ref h3, .ref h4, .ref h5, .int 0, .int 0]))] sz)) (vx_X (fun (_ : Unit) => True) (fun (E : String) (_ : Unit) (t : State) => E = "java/lang/IndexOutOfBoundsException" ∧ va_P (dC, dI) vwCl [(h0, .inr (11, [.ref h1, .ref h2, .ref h3, .ref h4, .ref h5, .int 0, .int 0]))] t.heap ∧ va_K (dC, dI) vwCl [] t ∧ va_D (va_A [(h0, .inr (11, [.ref h1, .ref h2, .ref h3, .ref h4, .ref h5, .int 0, .int 0]))] sz) [(h0, .inr (11, [.ref h1, .ref h2, .ref h3, .ref h4, .ref h5, .int 0, .int 0]))]) (va_A [(h0, .inr (11, [.ref h1, .ref h2, .ref h3, .ref h4, .ref h5, .int 0, .int 0]))] sz)) 1 6 (va_A [(h0, .inr (11, [.ref h1, .ref h2, .ref h3, .ref h4, .ref h5, .int 0, .int 0]))] sz) := by
  refine vx_ofW (cc := cX11_poke) (maxL := 3) (ret := (some .boolean)) (by decide) rfl ?_
  intro p e s m args below meth c s₁ B hml htab hv
  obtain ⟨rfl, hsz, hP, hK, hD0, hE⟩ := hv
  have hx := B.exec
  have hb := B.bytes
  have hr := B.returns
  have hts0 := atoms_spec (ws := Cond.code yX11_poke cX11_poke 3 (some .boolean) :: lw_G) B.pre
  have hG : ∀ w ∈ lw_G, w.before _ s = true := fun w h => hts0 w (List.mem_cons_of_mem _ h)
  have hown : s.vm.findClass RX11 = some m.cls := findClass_of_methodNamed B.named
  have hlocks := B.notSynchronized
  subst hsz
  have hD := hD0.self (sz := s.heap.size)
  generalize hAe : va_A [(h0, .inr (11, [.ref h1, .ref h2, .ref h3, .ref h4, .ref h5, .int 0, .int 0]))] s.heap.size = A at hD hE ⊢
  have hA : ∀ q : Nat, s.heap.size ≤ q → A q := fun q h => by rw [← hAe]; exact Or.inr h
  have hS : va_S A s.heap s.heap [] := va_S.rf
  have hP : va_P (dC, dI) vwCl [(h0, .inr (11, [.ref h1, .ref h2, .ref h3, .ref h4, .ref h5, .int 0, .int 0]))] s.heap := hP
  have hl := lv_entry ([.ref h0, .int x0, .int x1]) (n := 3) (Nat.le_of_ble_eq_true rfl)
  rw [lg_entry_eq]
  generalize (lg_sl ([.ref h0, .int x0, .int x1]) ++ List.replicate (3 - (lg_sl ([.ref h0, .int x0, .int x1])).length) Slot.unset).toArray = ls at hl ⊢
  have hl : lv_has ls 3 [(0, .ref h0), (1, .int x0), (2, .int x1)] := hl
  refine lv_iload_n hx hb dX11_poke_0 rfl (lv_at hl 1 rfl) ?_
  refine lv_if_lt (tgt := 10) hx hb dX11_poke_1 (by decide) (fun _ => ?_) (fun c => absurd (iv_lt ix0 (by decide : iv 0 0 0) (by decide)) c)
  have hP9 := hP.sub (ws' := [(h0, .inr (11, [.ref h1, .ref h2, .ref h3, .ref h4, .ref h5, .int 0, .int 0]))]) [0] rfl
  have hD9 := hD.sub (ws' := [(h0, .inr (11, [.ref h1, .ref h2, .ref h3, .ref h4, .ref h5, .int 0, .int 0]))]) [0] (by decide) rfl
  have hK9 := hK.sub (tys' := []) [] rfl
  refine vx_throwS (own := RX11) (cls := "java/lang/IndexOutOfBoundsException") (text := evT4) (names := ["java/lang/RuntimeException", "java/lang/Exception"]) hx hb hst hown (by decide) (by decide) (hG _ wd_1126) (hG _ wd_24) (evR4 hE) (evA1 hE hG) evG1_106 hE.2.2.2.1 hE.2.2.2.2.1 hS (by rw [hml]; exact hl.1) dX11_poke_10 dX11_poke_13 dX11_poke_14 dX11_poke_16 dX11_poke_19 (fun x hx9 => (htab x hx9).elim) (by decide) (by decide) (by decide) (by decide) hlocks (fun t hvm9 hz9 hk9 => ⟨(), trivial, ⟨rfl, hP9.kept (fun k q hk => hk9 q.1 (vx_lt hP9 hk)), va_K.moved hvm9 hK9, hD9⟩, Nat.le_trans hS.1 hz9, fun q hq hA9 => (hk9 q (Nat.lt_of_lt_of_le hq hS.1)).trans (hS.2.1 q hq hA9)⟩) hS.2.2 (by decide) (by decide)
set_option maxHeartbeats 4000000 in
set_option maxRecDepth 100000 in
theorem cL_poke_3 (l : Launch) (hst : l.stackTraces = false) (dC : Nat → ClassId) (dI : Nat → Nat → Nat) (adK adV : Nat → Nat) (h0 h1 h2 h3 h4 h5 h6 : Nat) (sz : Nat) (x0 x1 : Int32) (ix0 : iv x0 (-2147483648) (-1)) (ix1 : iv x1 0 255) : Met l yL_poke (Cond.codeWith yL_poke cL_poke 5 (some .int) [(0, 17, 20, 19)] :: lw_G) ({ frames := 7, cells := 1, slots := 6, locals := 104 }) (va_Pc [.ref h0, .int x0, .int x1, .ref h1] (fun U => U.heap.size = sz ∧ va_P (dC, dI) vwCl [(h0, .inr (11, [.ref h2, .ref h3, .ref h4, .ref h5, .ref h6, .int 0, .int 0]))] U.heap ∧ va_K (dC, dI) vwCl [] U ∧ va_D (fun _ => True) [(h0, .inr (11, [.ref h2, .ref h3, .ref h4, .ref h5, .ref h6, .int 0, .int 0]))] ∧ ev adK adV (va_A [(h0, .inr (11, [.ref h2, .ref h3, .ref h4, .ref h5, .ref h6, .int 0, .int 0]))] sz) U U.heap)) (va_Qi (fun (r : Int32) (u : Unit) => r = 1 ∧ True) (fun (u : Unit) (t : State) => va_P (dC, dI) vwCl [(h0, .inr (11, [.ref h2, .ref h3, .ref h4, .ref h5, .ref h6, .int 0, .int 0]))] t.heap ∧ va_K (dC, dI) vwCl [] t ∧ va_D (va_A [(h0, .inr (11, [.ref h2, .ref h3, .ref h4, .ref h5, .ref h6, .int 0, .int 0]))] sz) [(h0, .inr (11, [.ref h2, .ref h3, .ref h4, .ref h5, .ref h6, .int 0, .int 0]))]) (va_A [(h0, .inr (11, [.ref h2, .ref h3, .ref h4, .ref h5, .ref h6, .int 0, .int 0]))] sz)) 1 6 (va_A [(h0, .inr (11, [.ref h2, .ref h3, .ref h4, .ref h5, .ref h6, .int 0, .int 0]))] sz) := by
  refine va_MetW (cc := cL_poke) (maxL := 5) (ret := (some .int)) (by decide) rfl ?_
  intro p e s m args below meth c s₁ B hml hv
  obtain ⟨rfl, hsz, hP, hK, hD0, hE⟩ := hv
  have hx := B.exec
  have hb := B.bytes
  have hr := B.returns
  have hts0 := atoms_spec (ws := Cond.codeWith yL_poke cL_poke 5 (some .int) [(0, 17, 20, 19)] :: lw_G) B.pre
  have htab := vx_table (x := x) B (hts0 _ List.mem_cons_self)
  have hG : ∀ w ∈ lw_G, w.before _ s = true := fun w h => hts0 w (List.mem_cons_of_mem _ h)
  have hown : s.vm.findClass RL = some m.cls := findClass_of_methodNamed B.named
  have hlocks := B.notSynchronized
  subst hsz
  have hD := hD0.self (sz := s.heap.size)
  generalize hAe : va_A [(h0, .inr (11, [.ref h2, .ref h3, .ref h4, .ref h5, .ref h6, .int 0, .int 0]))] s.heap.size = A at hD hE ⊢
  have hA : ∀ q : Nat, s.heap.size ≤ q → A q := fun q h => by rw [← hAe]; exact Or.inr h
  have hS : va_S A s.heap s.heap [] := va_S.rf
  have hP : va_P (dC, dI) vwCl [(h0, .inr (11, [.ref h2, .ref h3, .ref h4, .ref h5, .ref h6, .int 0, .int 0]))] s.heap := hP
  have hl := lv_entry ([.ref h0, .int x0, .int x1, .ref h1]) (n := 5) (Nat.le_of_ble_eq_true rfl)
  rw [lg_entry_eq]
  generalize (lg_sl ([.ref h0, .int x0, .int x1, .ref h1]) ++ List.replicate (5 - (lg_sl ([.ref h0, .int x0, .int x1, .ref h1])).length) Slot.unset).toArray = ls at hl ⊢
  have hl : lv_has ls 5 [(0, .ref h0), (1, .int x0), (2, .int x1), (3, .ref h1)] := hl
  refine lv_aload_n hx hb dL_poke_0 rfl (lv_at hl 3 rfl) ?_
  refine lv_iconst (v := 0) hx hb dL_poke_1 (by decide) ?_
  refine lv_aload_n hx hb dL_poke_2 rfl (lv_at hl 0 rfl) ?_
  refine lv_iload_n hx hb dL_poke_3 rfl (lv_at hl 1 rfl) ?_
  refine lv_iload_n hx hb dL_poke_4 rfl (lv_at hl 2 rfl) ?_
  have hPc := hP.sub (ws' := [(h0, .inr (11, [.ref h2, .ref h3, .ref h4, .ref h5, .ref h6, .int 0, .int 0]))]) [0] rfl
  have hDc := hD.sub (ws' := [(h0, .inr (11, [.ref h2, .ref h3, .ref h4, .ref h5, .ref h6, .int 0, .int 0]))]) [0] (by decide) rfl
  have hKc := hK.sub (tys' := []) [] rfl
  have hFc := va_free (wc := [(h0, .inr (11, [.ref h2, .ref h3, .ref h4, .ref h5, .ref h6, .int 0, .int 0]))]) hD hS hA [0] rfl
  refine vx_calli (vx_runV (As := [.int x0, .int x1]) (rest := [.int 0, .ref h1]) ⟨hx, hb, hml, hown, hG⟩ (cX11_poke_3 l hst dC dI adK adV h0 h2 h3 h4 h5 h6 s.heap.size x0 x1 ix0 ix1) (cwV 2 hG (gV wd_1166 wd_1167 wd_1168 wd_1 wd_1169) rfl rfl rfl (by decide +kernel) ⟨Nat.le_of_ble_eq_true rfl, Nat.le_of_ble_eq_true rfl⟩) ⟨fun a U g mk q => by obtain ⟨q0, q1, qP, qK, qD, qE⟩ := q; exact ⟨q0, q1, qP, va_K.moved (u := U) (U := U.calling g mk a) (Vm.Alike.refl U.vm) qK, qD, qE.same rfl⟩, va_recv hKc hPc (ci := 11) (q0 := 0) rfl rfl, fun U hU hW => ⟨rfl, by rw [hU], by rw [hU]; exact hPc, va_K.moved hW.alike hKc, hDc.weaken (fun _ _ _ _ => trivial), by rw [hU]; exact ((hE.kept hS.2.1).narrow hFc).warm hW⟩⟩ rfl rfl hl.1 rfl (lv_room (Nat.le_of_ble_eq_true rfl)) dL_poke_5 ⟨by decide, by decide⟩) hS (fun q _ h => hFc q h) hFc (fun q _ h => hFc q h) (fun E9 ce q1 u9 t H1 locs ht hvm hpx hB hz1 hk1 hS hce hcv hcl => ?_) (fun r u t H1 locs ht hvm hw hB hz1 hk1 hS => hw.elim)
  obtain ⟨rfl, hP1, hK1, hD1⟩ := hB
  rw [ht] at hP1
  have hK1 := va_K.moved hvm.symm hK1
  obtain ⟨hP, hD⟩ := va_join (wr := []) (w1 := [(h0, .inr (11, [.ref h2, .ref h3, .ref h4, .ref h5, .ref h6, .int 0, .int 0]))]) hP hD [0] [] rfl rfl (by decide) (by decide) hk1 hFc hP1 hD1
  have hK := (hK.sub (tys' := []) [] rfl).app hK1
  generalize H1 = H at hP hS hce ⊢
  have hP : va_P (dC, dI) vwCl [(h0, .inr (11, [.ref h2, .ref h3, .ref h4, .ref h5, .ref h6, .int 0, .int 0]))] H := hP
  have hD : va_D A [(h0, .inr (11, [.ref h2, .ref h3, .ref h4, .ref h5, .ref h6, .int 0, .int 0]))] := hD
  have hK : va_K (dC, dI) vwCl [] s := hK
  refine vx_widen (k := 1) (n := 6) (by decide) (by decide) ?_
  refine vx_catch (name := "java/lang/IndexOutOfBoundsException") hown [] { startPc := 0, endPc := 17, handlerPc := 20, catchType := 19 } [] (by rw [htab]; rfl) (fun z hz => nomatch hz) (by decide) (by decide) (hG _ wd_1121) (evC1 hE) hce hcv hcl ?_
  refine lv_astore (lv' := [(4, .ref q1), (0, .ref h0), (1, .int x0), (2, .int x1), (3, .ref h1)]) hx hb dL_poke_20 hl (by decide) rfl (fun ls hl => ?_)
  refine lv_iconst (v := 1) hx hb dL_poke_22 (by decide) ?_
  have hP9 := hP.sub (ws' := [(h0, .inr (11, [.ref h2, .ref h3, .ref h4, .ref h5, .ref h6, .int 0, .int 0]))]) [0] rfl
  have hD9 := hD.sub (ws' := [(h0, .inr (11, [.ref h2, .ref h3, .ref h4, .ref h5, .ref h6, .int 0, .int 0]))]) [0] (by decide) rfl
  have hK9 := hK.sub (tys' := []) [] rfl
  refine W.widen (k := 1) (n := 6) (by decide) (by decide) ?_
  exact W.iret (v := 1) hx hb hr (fun t ht hW => ⟨⟨1, (), rfl, ⟨rfl, trivial⟩, by rw [ht]; exact hP9, va_K.moved hW.alike hK9, hD9⟩, hS.F ht⟩) hS.2.2 dL_poke_23
set_option maxHeartbeats 4000000 in
set_option maxRecDepth 100000 in
theorem cX11_poke_4 (l : Launch) (hst : l.stackTraces = false) (dC : Nat → ClassId) (dI : Nat → Nat → Nat) (adK adV : Nat → Nat) (h0 h1 h2 h3 h4 h5 : Nat) (sz : Nat) (x0 x1 : Int32) (ix0 : iv x0 65536 2147483647) (ix1 : iv x1 (-2147483648) (-1)) : vx_Met l yX11_poke (Cond.code yX11_poke cX11_poke 3 (some .boolean) :: lw_G) ({ frames := 6, cells := 1, slots := 6, locals := 82 }) (va_Pc [.ref h0, .int x0, .int x1] (fun U => U.heap.size = sz ∧ va_P (dC, dI) vwCl [(h0, .inr (11, [.ref h1, .ref h2, .ref h3, .ref h4, .ref h5, .int 0, .int 0]))] U.heap ∧ va_K (dC, dI) vwCl [] U ∧ va_D (fun _ => True) [(h0, .inr (11, [.ref h1, .ref h2, .ref h3, .ref h4, .ref h5, .int 0, .int 0]))] ∧ ev adK adV (va_A [(h0, .inr (11, [.ref h1, .ref h2, .ref h3, .ref h4, .ref h5, .int 0, .int 0]))] sz) U U.heap)) (va_Qi (fun (_ : Int32) (_ : Unit) => False) (fun _ _ => True) (va_A [(h0, .inr (11, [.ref h1, .ref h2, .ref h3, .ref h4, .ref h5, .int 0, .int 0]))] sz)) (vx_X (fun (_ : Unit) => True) (fun (E : String) (_ : Unit) (t : State) => E = "java/lang/IndexOutOfBoundsException" ∧ va_P (dC, dI) vwCl [(h0, .inr (11, [.ref h1, .ref h2, .ref h3, .ref h4, .ref h5, .int 0, .int 0]))] t.heap ∧ va_K (dC, dI) vwCl [] t ∧ va_D (va_A [(h0, .inr (11, [.ref h1, .ref h2, .ref h3, .ref h4, .ref h5, .int 0, .int 0]))] sz) [(h0, .inr (11, [.ref h1, .ref h2, .ref h3, .ref h4, .ref h5, .int 0, .int 0]))]) (va_A [(h0, .inr (11, [.ref h1, .ref h2, .ref h3, .ref h4, .ref h5, .int 0, .int 0]))] sz)) 1 6 (va_A [(h0, .inr (11, [.ref h1, .ref h2, .ref h3, .ref h4, .ref h5, .int 0, .int 0]))] sz) := by
  refine vx_ofW (cc := cX11_poke) (maxL := 3) (ret := (some .boolean)) (by decide) rfl ?_
  intro p e s m args below meth c s₁ B hml htab hv
  obtain ⟨rfl, hsz, hP, hK, hD0, hE⟩ := hv
  have hx := B.exec
  have hb := B.bytes
  have hr := B.returns
  have hts0 := atoms_spec (ws := Cond.code yX11_poke cX11_poke 3 (some .boolean) :: lw_G) B.pre
  have hG : ∀ w ∈ lw_G, w.before _ s = true := fun w h => hts0 w (List.mem_cons_of_mem _ h)
  have hown : s.vm.findClass RX11 = some m.cls := findClass_of_methodNamed B.named
  have hlocks := B.notSynchronized
  subst hsz
  have hD := hD0.self (sz := s.heap.size)
  generalize hAe : va_A [(h0, .inr (11, [.ref h1, .ref h2, .ref h3, .ref h4, .ref h5, .int 0, .int 0]))] s.heap.size = A at hD hE ⊢
  have hA : ∀ q : Nat, s.heap.size ≤ q → A q := fun q h => by rw [← hAe]; exact Or.inr h
  have hS : va_S A s.heap s.heap [] := va_S.rf
  have hP : va_P (dC, dI) vwCl [(h0, .inr (11, [.ref h1, .ref h2, .ref h3, .ref h4, .ref h5, .int 0, .int 0]))] s.heap := hP
  have hl := lv_entry ([.ref h0, .int x0, .int x1]) (n := 3) (Nat.le_of_ble_eq_true rfl)
  rw [lg_entry_eq]
  generalize (lg_sl ([.ref h0, .int x0, .int x1]) ++ List.replicate (3 - (lg_sl ([.ref h0, .int x0, .int x1])).length) Slot.unset).toArray = ls at hl ⊢
  have hl : lv_has ls 3 [(0, .ref h0), (1, .int x0), (2, .int x1)] := hl
  refine lv_iload_n hx hb dX11_poke_0 rfl (lv_at hl 1 rfl) ?_
  refine lv_if_lt (tgt := 10) hx hb dX11_poke_1 (by decide) (fun c => absurd c (iv_nlt ix0 (by decide : iv 0 0 0) (by decide))) (fun _ => ?_)
  refine lv_iload_n hx hb dX11_poke_4 rfl (lv_at hl 1 rfl) ?_
  refine lv_ldc hx hb hown (hG _ wd_1157) dX11_poke_5 ?_
  refine lv_icmp_lt (tgt := 20) hx hb dX11_poke_7 (by decide) (fun c => absurd c (iv_nlt ix0 (by decide : iv 65536 65536 65536) (by decide))) (fun _ => ?_)
  have hP9 := hP.sub (ws' := [(h0, .inr (11, [.ref h1, .ref h2, .ref h3, .ref h4, .ref h5, .int 0, .int 0]))]) [0] rfl
  have hD9 := hD.sub (ws' := [(h0, .inr (11, [.ref h1, .ref h2, .ref h3, .ref h4, .ref h5, .int 0, .int 0]))]) [0] (by decide) rfl
  have hK9 := hK.sub (tys' := []) [] rfl
  refine vx_throwS (own := RX11) (cls := "java/lang/IndexOutOfBoundsException") (text := evT4) (names := ["java/lang/RuntimeException", "java/lang/Exception"]) hx hb hst hown (by decide) (by decide) (hG _ wd_1126) (hG _ wd_24) (evR4 hE) (evA1 hE hG) evG1_106 hE.2.2.2.1 hE.2.2.2.2.1 hS (by rw [hml]; exact hl.1) dX11_poke_10 dX11_poke_13 dX11_poke_14 dX11_poke_16 dX11_poke_19 (fun x hx9 => (htab x hx9).elim) (by decide) (by decide) (by decide) (by decide) hlocks (fun t hvm9 hz9 hk9 => ⟨(), trivial, ⟨rfl, hP9.kept (fun k q hk => hk9 q.1 (vx_lt hP9 hk)), va_K.moved hvm9 hK9, hD9⟩, Nat.le_trans hS.1 hz9, fun q hq hA9 => (hk9 q (Nat.lt_of_lt_of_le hq hS.1)).trans (hS.2.1 q hq hA9)⟩) hS.2.2 (by decide) (by decide)
set_option maxHeartbeats 4000000 in
set_option maxRecDepth 100000 in
theorem cL_poke_4 (l : Launch) (hst : l.stackTraces = false) (dC : Nat → ClassId) (dI : Nat → Nat → Nat) (adK adV : Nat → Nat) (h0 h1 h2 h3 h4 h5 h6 : Nat) (sz : Nat) (x0 x1 : Int32) (ix0 : iv x0 65536 2147483647) (ix1 : iv x1 (-2147483648) (-1)) : Met l yL_poke (Cond.codeWith yL_poke cL_poke 5 (some .int) [(0, 17, 20, 19)] :: lw_G) ({ frames := 7, cells := 1, slots := 6, locals := 104 }) (va_Pc [.ref h0, .int x0, .int x1, .ref h1] (fun U => U.heap.size = sz ∧ va_P (dC, dI) vwCl [(h0, .inr (11, [.ref h2, .ref h3, .ref h4, .ref h5, .ref h6, .int 0, .int 0]))] U.heap ∧ va_K (dC, dI) vwCl [] U ∧ va_D (fun _ => True) [(h0, .inr (11, [.ref h2, .ref h3, .ref h4, .ref h5, .ref h6, .int 0, .int 0]))] ∧ ev adK adV (va_A [(h0, .inr (11, [.ref h2, .ref h3, .ref h4, .ref h5, .ref h6, .int 0, .int 0]))] sz) U U.heap)) (va_Qi (fun (r : Int32) (u : Unit) => r = 1 ∧ True) (fun (u : Unit) (t : State) => va_P (dC, dI) vwCl [(h0, .inr (11, [.ref h2, .ref h3, .ref h4, .ref h5, .ref h6, .int 0, .int 0]))] t.heap ∧ va_K (dC, dI) vwCl [] t ∧ va_D (va_A [(h0, .inr (11, [.ref h2, .ref h3, .ref h4, .ref h5, .ref h6, .int 0, .int 0]))] sz) [(h0, .inr (11, [.ref h2, .ref h3, .ref h4, .ref h5, .ref h6, .int 0, .int 0]))]) (va_A [(h0, .inr (11, [.ref h2, .ref h3, .ref h4, .ref h5, .ref h6, .int 0, .int 0]))] sz)) 1 6 (va_A [(h0, .inr (11, [.ref h2, .ref h3, .ref h4, .ref h5, .ref h6, .int 0, .int 0]))] sz) := by
  refine va_MetW (cc := cL_poke) (maxL := 5) (ret := (some .int)) (by decide) rfl ?_
  intro p e s m args below meth c s₁ B hml hv
  obtain ⟨rfl, hsz, hP, hK, hD0, hE⟩ := hv
  have hx := B.exec
  have hb := B.bytes
  have hr := B.returns
  have hts0 := atoms_spec (ws := Cond.codeWith yL_poke cL_poke 5 (some .int) [(0, 17, 20, 19)] :: lw_G) B.pre
  have htab := vx_table (x := x) B (hts0 _ List.mem_cons_self)
  have hG : ∀ w ∈ lw_G, w.before _ s = true := fun w h => hts0 w (List.mem_cons_of_mem _ h)
  have hown : s.vm.findClass RL = some m.cls := findClass_of_methodNamed B.named
  have hlocks := B.notSynchronized
  subst hsz
  have hD := hD0.self (sz := s.heap.size)
  generalize hAe : va_A [(h0, .inr (11, [.ref h2, .ref h3, .ref h4, .ref h5, .ref h6, .int 0, .int 0]))] s.heap.size = A at hD hE ⊢
  have hA : ∀ q : Nat, s.heap.size ≤ q → A q := fun q h => by rw [← hAe]; exact Or.inr h
  have hS : va_S A s.heap s.heap [] := va_S.rf
  have hP : va_P (dC, dI) vwCl [(h0, .inr (11, [.ref h2, .ref h3, .ref h4, .ref h5, .ref h6, .int 0, .int 0]))] s.heap := hP
  have hl := lv_entry ([.ref h0, .int x0, .int x1, .ref h1]) (n := 5) (Nat.le_of_ble_eq_true rfl)
  rw [lg_entry_eq]
  generalize (lg_sl ([.ref h0, .int x0, .int x1, .ref h1]) ++ List.replicate (5 - (lg_sl ([.ref h0, .int x0, .int x1, .ref h1])).length) Slot.unset).toArray = ls at hl ⊢
  have hl : lv_has ls 5 [(0, .ref h0), (1, .int x0), (2, .int x1), (3, .ref h1)] := hl
  refine lv_aload_n hx hb dL_poke_0 rfl (lv_at hl 3 rfl) ?_
  refine lv_iconst (v := 0) hx hb dL_poke_1 (by decide) ?_
  refine lv_aload_n hx hb dL_poke_2 rfl (lv_at hl 0 rfl) ?_
  refine lv_iload_n hx hb dL_poke_3 rfl (lv_at hl 1 rfl) ?_
  refine lv_iload_n hx hb dL_poke_4 rfl (lv_at hl 2 rfl) ?_
  have hPc := hP.sub (ws' := [(h0, .inr (11, [.ref h2, .ref h3, .ref h4, .ref h5, .ref h6, .int 0, .int 0]))]) [0] rfl
  have hDc := hD.sub (ws' := [(h0, .inr (11, [.ref h2, .ref h3, .ref h4, .ref h5, .ref h6, .int 0, .int 0]))]) [0] (by decide) rfl
  have hKc := hK.sub (tys' := []) [] rfl
  have hFc := va_free (wc := [(h0, .inr (11, [.ref h2, .ref h3, .ref h4, .ref h5, .ref h6, .int 0, .int 0]))]) hD hS hA [0] rfl
  refine vx_calli (vx_runV (As := [.int x0, .int x1]) (rest := [.int 0, .ref h1]) ⟨hx, hb, hml, hown, hG⟩ (cX11_poke_4 l hst dC dI adK adV h0 h2 h3 h4 h5 h6 s.heap.size x0 x1 ix0 ix1) (cwV 2 hG (gV wd_1166 wd_1167 wd_1168 wd_1 wd_1169) rfl rfl rfl (by decide +kernel) ⟨Nat.le_of_ble_eq_true rfl, Nat.le_of_ble_eq_true rfl⟩) ⟨fun a U g mk q => by obtain ⟨q0, q1, qP, qK, qD, qE⟩ := q; exact ⟨q0, q1, qP, va_K.moved (u := U) (U := U.calling g mk a) (Vm.Alike.refl U.vm) qK, qD, qE.same rfl⟩, va_recv hKc hPc (ci := 11) (q0 := 0) rfl rfl, fun U hU hW => ⟨rfl, by rw [hU], by rw [hU]; exact hPc, va_K.moved hW.alike hKc, hDc.weaken (fun _ _ _ _ => trivial), by rw [hU]; exact ((hE.kept hS.2.1).narrow hFc).warm hW⟩⟩ rfl rfl hl.1 rfl (lv_room (Nat.le_of_ble_eq_true rfl)) dL_poke_5 ⟨by decide, by decide⟩) hS (fun q _ h => hFc q h) hFc (fun q _ h => hFc q h) (fun E9 ce q1 u9 t H1 locs ht hvm hpx hB hz1 hk1 hS hce hcv hcl => ?_) (fun r u t H1 locs ht hvm hw hB hz1 hk1 hS => hw.elim)
  obtain ⟨rfl, hP1, hK1, hD1⟩ := hB
  rw [ht] at hP1
  have hK1 := va_K.moved hvm.symm hK1
  obtain ⟨hP, hD⟩ := va_join (wr := []) (w1 := [(h0, .inr (11, [.ref h2, .ref h3, .ref h4, .ref h5, .ref h6, .int 0, .int 0]))]) hP hD [0] [] rfl rfl (by decide) (by decide) hk1 hFc hP1 hD1
  have hK := (hK.sub (tys' := []) [] rfl).app hK1
  generalize H1 = H at hP hS hce ⊢
  have hP : va_P (dC, dI) vwCl [(h0, .inr (11, [.ref h2, .ref h3, .ref h4, .ref h5, .ref h6, .int 0, .int 0]))] H := hP
  have hD : va_D A [(h0, .inr (11, [.ref h2, .ref h3, .ref h4, .ref h5, .ref h6, .int 0, .int 0]))] := hD
  have hK : va_K (dC, dI) vwCl [] s := hK
  refine vx_widen (k := 1) (n := 6) (by decide) (by decide) ?_
  refine vx_catch (name := "java/lang/IndexOutOfBoundsException") hown [] { startPc := 0, endPc := 17, handlerPc := 20, catchType := 19 } [] (by rw [htab]; rfl) (fun z hz => nomatch hz) (by decide) (by decide) (hG _ wd_1121) (evC1 hE) hce hcv hcl ?_
  refine lv_astore (lv' := [(4, .ref q1), (0, .ref h0), (1, .int x0), (2, .int x1), (3, .ref h1)]) hx hb dL_poke_20 hl (by decide) rfl (fun ls hl => ?_)
  refine lv_iconst (v := 1) hx hb dL_poke_22 (by decide) ?_
  have hP9 := hP.sub (ws' := [(h0, .inr (11, [.ref h2, .ref h3, .ref h4, .ref h5, .ref h6, .int 0, .int 0]))]) [0] rfl
  have hD9 := hD.sub (ws' := [(h0, .inr (11, [.ref h2, .ref h3, .ref h4, .ref h5, .ref h6, .int 0, .int 0]))]) [0] (by decide) rfl
  have hK9 := hK.sub (tys' := []) [] rfl
  refine W.widen (k := 1) (n := 6) (by decide) (by decide) ?_
  exact W.iret (v := 1) hx hb hr (fun t ht hW => ⟨⟨1, (), rfl, ⟨rfl, trivial⟩, by rw [ht]; exact hP9, va_K.moved hW.alike hK9, hD9⟩, hS.F ht⟩) hS.2.2 dL_poke_23
set_option maxHeartbeats 4000000 in
set_option maxRecDepth 100000 in
theorem cX11_poke_5 (l : Launch) (hst : l.stackTraces = false) (dC : Nat → ClassId) (dI : Nat → Nat → Nat) (adK adV : Nat → Nat) (h0 h1 h2 h3 h4 h5 : Nat) (sz : Nat) (x0 x1 : Int32) (ix0 : iv x0 65536 2147483647) (ix1 : iv x1 256 2147483647) : vx_Met l yX11_poke (Cond.code yX11_poke cX11_poke 3 (some .boolean) :: lw_G) ({ frames := 6, cells := 1, slots := 6, locals := 82 }) (va_Pc [.ref h0, .int x0, .int x1] (fun U => U.heap.size = sz ∧ va_P (dC, dI) vwCl [(h0, .inr (11, [.ref h1, .ref h2, .ref h3, .ref h4, .ref h5, .int 0, .int 0]))] U.heap ∧ va_K (dC, dI) vwCl [] U ∧ va_D (fun _ => True) [(h0, .inr (11, [.ref h1, .ref h2, .ref h3, .ref h4, .ref h5, .int 0, .int 0]))] ∧ ev adK adV (va_A [(h0, .inr (11, [.ref h1, .ref h2, .ref h3, .ref h4, .ref h5, .int 0, .int 0]))] sz) U U.heap)) (va_Qi (fun (_ : Int32) (_ : Unit) => False) (fun _ _ => True) (va_A [(h0, .inr (11, [.ref h1, .ref h2, .ref h3, .ref h4, .ref h5, .int 0, .int 0]))] sz)) (vx_X (fun (_ : Unit) => True) (fun (E : String) (_ : Unit) (t : State) => E = "java/lang/IndexOutOfBoundsException" ∧ va_P (dC, dI) vwCl [(h0, .inr (11, [.ref h1, .ref h2, .ref h3, .ref h4, .ref h5, .int 0, .int 0]))] t.heap ∧ va_K (dC, dI) vwCl [] t ∧ va_D (va_A [(h0, .inr (11, [.ref h1, .ref h2, .ref h3, .ref h4, .ref h5, .int 0, .int 0]))] sz) [(h0, .inr (11, [.ref h1, .ref h2, .ref h3, .ref h4, .ref h5, .int 0, .int 0]))]) (va_A [(h0, .inr (11, [.ref h1, .ref h2, .ref h3, .ref h4, .ref h5, .int 0, .int 0]))] sz)) 1 6 (va_A [(h0, .inr (11, [.ref h1, .ref h2, .ref h3, .ref h4, .ref h5, .int 0, .int 0]))] sz) := by
  refine vx_ofW (cc := cX11_poke) (maxL := 3) (ret := (some .boolean)) (by decide) rfl ?_
  intro p e s m args below meth c s₁ B hml htab hv
  obtain ⟨rfl, hsz, hP, hK, hD0, hE⟩ := hv
  have hx := B.exec
  have hb := B.bytes
  have hr := B.returns
  have hts0 := atoms_spec (ws := Cond.code yX11_poke cX11_poke 3 (some .boolean) :: lw_G) B.pre
  have hG : ∀ w ∈ lw_G, w.before _ s = true := fun w h => hts0 w (List.mem_cons_of_mem _ h)
  have hown : s.vm.findClass RX11 = some m.cls := findClass_of_methodNamed B.named
  have hlocks := B.notSynchronized
  subst hsz
  have hD := hD0.self (sz := s.heap.size)
  generalize hAe : va_A [(h0, .inr (11, [.ref h1, .ref h2, .ref h3, .ref h4, .ref h5, .int 0, .int 0]))] s.heap.size = A at hD hE ⊢
  have hA : ∀ q : Nat, s.heap.size ≤ q → A q := fun q h => by rw [← hAe]; exact Or.inr h
  have hS : va_S A s.heap s.heap [] := va_S.rf
  have hP : va_P (dC, dI) vwCl [(h0, .inr (11, [.ref h1, .ref h2, .ref h3, .ref h4, .ref h5, .int 0, .int 0]))] s.heap := hP
  have hl := lv_entry ([.ref h0, .int x0, .int x1]) (n := 3) (Nat.le_of_ble_eq_true rfl)
  rw [lg_entry_eq]
  generalize (lg_sl ([.ref h0, .int x0, .int x1]) ++ List.replicate (3 - (lg_sl ([.ref h0, .int x0, .int x1])).length) Slot.unset).toArray = ls at hl ⊢
  have hl : lv_has ls 3 [(0, .ref h0), (1, .int x0), (2, .int x1)] := hl
  refine lv_iload_n hx hb dX11_poke_0 rfl (lv_at hl 1 rfl) ?_
  refine lv_if_lt (tgt := 10) hx hb dX11_poke_1 (by decide) (fun c => absurd c (iv_nlt ix0 (by decide : iv 0 0 0) (by decide))) (fun _ => ?_)
  refine lv_iload_n hx hb dX11_poke_4 rfl (lv_at hl 1 rfl) ?_
  refine lv_ldc hx hb hown (hG _ wd_1157) dX11_poke_5 ?_
  refine lv_icmp_lt (tgt := 20) hx hb dX11_poke_7 (by decide) (fun c => absurd c (iv_nlt ix0 (by decide : iv 65536 65536 65536) (by decide))) (fun _ => ?_)
  have hP9 := hP.sub (ws' := [(h0, .inr (11, [.ref h1, .ref h2, .ref h3, .ref h4, .ref h5, .int 0, .int 0]))]) [0] rfl
  have hD9 := hD.sub (ws' := [(h0, .inr (11, [.ref h1, .ref h2, .ref h3, .ref h4, .ref h5, .int 0, .int 0]))]) [0] (by decide) rfl
  have hK9 := hK.sub (tys' := []) [] rfl
  refine vx_throwS (own := RX11) (cls := "java/lang/IndexOutOfBoundsException") (text := evT4) (names := ["java/lang/RuntimeException", "java/lang/Exception"]) hx hb hst hown (by decide) (by decide) (hG _ wd_1126) (hG _ wd_24) (evR4 hE) (evA1 hE hG) evG1_106 hE.2.2.2.1 hE.2.2.2.2.1 hS (by rw [hml]; exact hl.1) dX11_poke_10 dX11_poke_13 dX11_poke_14 dX11_poke_16 dX11_poke_19 (fun x hx9 => (htab x hx9).elim) (by decide) (by decide) (by decide) (by decide) hlocks (fun t hvm9 hz9 hk9 => ⟨(), trivial, ⟨rfl, hP9.kept (fun k q hk => hk9 q.1 (vx_lt hP9 hk)), va_K.moved hvm9 hK9, hD9⟩, Nat.le_trans hS.1 hz9, fun q hq hA9 => (hk9 q (Nat.lt_of_lt_of_le hq hS.1)).trans (hS.2.1 q hq hA9)⟩) hS.2.2 (by decide) (by decide)
set_option maxHeartbeats 4000000 in
set_option maxRecDepth 100000 in
theorem cL_poke_5 (l : Launch) (hst : l.stackTraces = false) (dC : Nat → ClassId) (dI : Nat → Nat → Nat) (adK adV : Nat → Nat) (h0 h1 h2 h3 h4 h5 h6 : Nat) (sz : Nat) (x0 x1 : Int32) (ix0 : iv x0 65536 2147483647) (ix1 : iv x1 256 2147483647) : Met l yL_poke (Cond.codeWith yL_poke cL_poke 5 (some .int) [(0, 17, 20, 19)] :: lw_G) ({ frames := 7, cells := 1, slots := 6, locals := 104 }) (va_Pc [.ref h0, .int x0, .int x1, .ref h1] (fun U => U.heap.size = sz ∧ va_P (dC, dI) vwCl [(h0, .inr (11, [.ref h2, .ref h3, .ref h4, .ref h5, .ref h6, .int 0, .int 0]))] U.heap ∧ va_K (dC, dI) vwCl [] U ∧ va_D (fun _ => True) [(h0, .inr (11, [.ref h2, .ref h3, .ref h4, .ref h5, .ref h6, .int 0, .int 0]))] ∧ ev adK adV (va_A [(h0, .inr (11, [.ref h2, .ref h3, .ref h4, .ref h5, .ref h6, .int 0, .int 0]))] sz) U U.heap)) (va_Qi (fun (r : Int32) (u : Unit) => r = 1 ∧ True) (fun (u : Unit) (t : State) => va_P (dC, dI) vwCl [(h0, .inr (11, [.ref h2, .ref h3, .ref h4, .ref h5, .ref h6, .int 0, .int 0]))] t.heap ∧ va_K (dC, dI) vwCl [] t ∧ va_D (va_A [(h0, .inr (11, [.ref h2, .ref h3, .ref h4, .ref h5, .ref h6, .int 0, .int 0]))] sz) [(h0, .inr (11, [.ref h2, .ref h3, .ref h4, .ref h5, .ref h6, .int 0, .int 0]))]) (va_A [(h0, .inr (11, [.ref h2, .ref h3, .ref h4, .ref h5, .ref h6, .int 0, .int 0]))] sz)) 1 6 (va_A [(h0, .inr (11, [.ref h2, .ref h3, .ref h4, .ref h5, .ref h6, .int 0, .int 0]))] sz) := by
  refine va_MetW (cc := cL_poke) (maxL := 5) (ret := (some .int)) (by decide) rfl ?_
  intro p e s m args below meth c s₁ B hml hv
  obtain ⟨rfl, hsz, hP, hK, hD0, hE⟩ := hv
  have hx := B.exec
  have hb := B.bytes
  have hr := B.returns
  have hts0 := atoms_spec (ws := Cond.codeWith yL_poke cL_poke 5 (some .int) [(0, 17, 20, 19)] :: lw_G) B.pre
  have htab := vx_table (x := x) B (hts0 _ List.mem_cons_self)
  have hG : ∀ w ∈ lw_G, w.before _ s = true := fun w h => hts0 w (List.mem_cons_of_mem _ h)
  have hown : s.vm.findClass RL = some m.cls := findClass_of_methodNamed B.named
  have hlocks := B.notSynchronized
  subst hsz
  have hD := hD0.self (sz := s.heap.size)
  generalize hAe : va_A [(h0, .inr (11, [.ref h2, .ref h3, .ref h4, .ref h5, .ref h6, .int 0, .int 0]))] s.heap.size = A at hD hE ⊢
  have hA : ∀ q : Nat, s.heap.size ≤ q → A q := fun q h => by rw [← hAe]; exact Or.inr h
  have hS : va_S A s.heap s.heap [] := va_S.rf
  have hP : va_P (dC, dI) vwCl [(h0, .inr (11, [.ref h2, .ref h3, .ref h4, .ref h5, .ref h6, .int 0, .int 0]))] s.heap := hP
  have hl := lv_entry ([.ref h0, .int x0, .int x1, .ref h1]) (n := 5) (Nat.le_of_ble_eq_true rfl)
  rw [lg_entry_eq]
  generalize (lg_sl ([.ref h0, .int x0, .int x1, .ref h1]) ++ List.replicate (5 - (lg_sl ([.ref h0, .int x0, .int x1, .ref h1])).length) Slot.unset).toArray = ls at hl ⊢
  have hl : lv_has ls 5 [(0, .ref h0), (1, .int x0), (2, .int x1), (3, .ref h1)] := hl
  refine lv_aload_n hx hb dL_poke_0 rfl (lv_at hl 3 rfl) ?_
  refine lv_iconst (v := 0) hx hb dL_poke_1 (by decide) ?_
  refine lv_aload_n hx hb dL_poke_2 rfl (lv_at hl 0 rfl) ?_
  refine lv_iload_n hx hb dL_poke_3 rfl (lv_at hl 1 rfl) ?_
  refine lv_iload_n hx hb dL_poke_4 rfl (lv_at hl 2 rfl) ?_
  have hPc := hP.sub (ws' := [(h0, .inr (11, [.ref h2, .ref h3, .ref h4, .ref h5, .ref h6, .int 0, .int 0]))]) [0] rfl
  have hDc := hD.sub (ws' := [(h0, .inr (11, [.ref h2, .ref h3, .ref h4, .ref h5, .ref h6, .int 0, .int 0]))]) [0] (by decide) rfl
  have hKc := hK.sub (tys' := []) [] rfl
  have hFc := va_free (wc := [(h0, .inr (11, [.ref h2, .ref h3, .ref h4, .ref h5, .ref h6, .int 0, .int 0]))]) hD hS hA [0] rfl
  refine vx_calli (vx_runV (As := [.int x0, .int x1]) (rest := [.int 0, .ref h1]) ⟨hx, hb, hml, hown, hG⟩ (cX11_poke_5 l hst dC dI adK adV h0 h2 h3 h4 h5 h6 s.heap.size x0 x1 ix0 ix1) (cwV 2 hG (gV wd_1166 wd_1167 wd_1168 wd_1 wd_1169) rfl rfl rfl (by decide +kernel) ⟨Nat.le_of_ble_eq_true rfl, Nat.le_of_ble_eq_true rfl⟩) ⟨fun a U g mk q => by obtain ⟨q0, q1, qP, qK, qD, qE⟩ := q; exact ⟨q0, q1, qP, va_K.moved (u := U) (U := U.calling g mk a) (Vm.Alike.refl U.vm) qK, qD, qE.same rfl⟩, va_recv hKc hPc (ci := 11) (q0 := 0) rfl rfl, fun U hU hW => ⟨rfl, by rw [hU], by rw [hU]; exact hPc, va_K.moved hW.alike hKc, hDc.weaken (fun _ _ _ _ => trivial), by rw [hU]; exact ((hE.kept hS.2.1).narrow hFc).warm hW⟩⟩ rfl rfl hl.1 rfl (lv_room (Nat.le_of_ble_eq_true rfl)) dL_poke_5 ⟨by decide, by decide⟩) hS (fun q _ h => hFc q h) hFc (fun q _ h => hFc q h) (fun E9 ce q1 u9 t H1 locs ht hvm hpx hB hz1 hk1 hS hce hcv hcl => ?_) (fun r u t H1 locs ht hvm hw hB hz1 hk1 hS => hw.elim)
  obtain ⟨rfl, hP1, hK1, hD1⟩ := hB
  rw [ht] at hP1
  have hK1 := va_K.moved hvm.symm hK1
  obtain ⟨hP, hD⟩ := va_join (wr := []) (w1 := [(h0, .inr (11, [.ref h2, .ref h3, .ref h4, .ref h5, .ref h6, .int 0, .int 0]))]) hP hD [0] [] rfl rfl (by decide) (by decide) hk1 hFc hP1 hD1
  have hK := (hK.sub (tys' := []) [] rfl).app hK1
  generalize H1 = H at hP hS hce ⊢
  have hP : va_P (dC, dI) vwCl [(h0, .inr (11, [.ref h2, .ref h3, .ref h4, .ref h5, .ref h6, .int 0, .int 0]))] H := hP
  have hD : va_D A [(h0, .inr (11, [.ref h2, .ref h3, .ref h4, .ref h5, .ref h6, .int 0, .int 0]))] := hD
  have hK : va_K (dC, dI) vwCl [] s := hK
  refine vx_widen (k := 1) (n := 6) (by decide) (by decide) ?_
  refine vx_catch (name := "java/lang/IndexOutOfBoundsException") hown [] { startPc := 0, endPc := 17, handlerPc := 20, catchType := 19 } [] (by rw [htab]; rfl) (fun z hz => nomatch hz) (by decide) (by decide) (hG _ wd_1121) (evC1 hE) hce hcv hcl ?_
  refine lv_astore (lv' := [(4, .ref q1), (0, .ref h0), (1, .int x0), (2, .int x1), (3, .ref h1)]) hx hb dL_poke_20 hl (by decide) rfl (fun ls hl => ?_)
  refine lv_iconst (v := 1) hx hb dL_poke_22 (by decide) ?_
  have hP9 := hP.sub (ws' := [(h0, .inr (11, [.ref h2, .ref h3, .ref h4, .ref h5, .ref h6, .int 0, .int 0]))]) [0] rfl
  have hD9 := hD.sub (ws' := [(h0, .inr (11, [.ref h2, .ref h3, .ref h4, .ref h5, .ref h6, .int 0, .int 0]))]) [0] (by decide) rfl
  have hK9 := hK.sub (tys' := []) [] rfl
  refine W.widen (k := 1) (n := 6) (by decide) (by decide) ?_
  exact W.iret (v := 1) hx hb hr (fun t ht hW => ⟨⟨1, (), rfl, ⟨rfl, trivial⟩, by rw [ht]; exact hP9, va_K.moved hW.alike hK9, hD9⟩, hS.F ht⟩) hS.2.2 dL_poke_23
set_option maxHeartbeats 4000000 in
set_option maxRecDepth 100000 in
theorem cX11_poke_6 (l : Launch) (hst : l.stackTraces = false) (dC : Nat → ClassId) (dI : Nat → Nat → Nat) (adK adV : Nat → Nat) (h0 h1 h2 h3 h4 h5 : Nat) (sz : Nat) (x0 x1 : Int32) (ix0 : iv x0 65536 2147483647) (ix1 : iv x1 0 255) : vx_Met l yX11_poke (Cond.code yX11_poke cX11_poke 3 (some .boolean) :: lw_G) ({ frames := 6, cells := 1, slots := 6, locals := 82 }) (va_Pc [.ref h0, .int x0, .int x1] (fun U => U.heap.size = sz ∧ va_P (dC, dI) vwCl [(h0, .inr (11, [.ref h1, .ref h2, .ref h3, .ref h4, .ref h5, .int 0, .int 0]))] U.heap ∧ va_K (dC, dI) vwCl [] U ∧ va_D (fun _ => True) [(h0, .inr (11, [.ref h1, .ref h2, .ref h3, .ref h4, .ref h5, .int 0, .int 0]))] ∧ ev adK adV (va_A [(h0, .inr (11, [.ref h1, .ref h2, .ref h3, .ref h4, .ref h5, .int 0, .int 0]))] sz) U U.heap)) (va_Qi (fun (_ : Int32) (_ : Unit) => False) (fun _ _ => True) (va_A [(h0, .inr (11, [.ref h1, .ref h2, .ref h3, .ref h4, .ref h5, .int 0, .int 0]))] sz)) (vx_X (fun (_ : Unit) => True) (fun (E : String) (_ : Unit) (t : State) => E = "java/lang/IndexOutOfBoundsException" ∧ va_P (dC, dI) vwCl [(h0, .inr (11, [.ref h1, .ref h2, .ref h3, .ref h4, .ref h5, .int 0, .int 0]))] t.heap ∧ va_K (dC, dI) vwCl [] t ∧ va_D (va_A [(h0, .inr (11, [.ref h1, .ref h2, .ref h3, .ref h4, .ref h5, .int 0, .int 0]))] sz) [(h0, .inr (11, [.ref h1, .ref h2, .ref h3, .ref h4, .ref h5, .int 0, .int 0]))]) (va_A [(h0, .inr (11, [.ref h1, .ref h2, .ref h3, .ref h4, .ref h5, .int 0, .int 0]))] sz)) 1 6 (va_A [(h0, .inr (11, [.ref h1, .ref h2, .ref h3, .ref h4, .ref h5, .int 0, .int 0]))] sz) := by
  refine vx_ofW (cc := cX11_poke) (maxL := 3) (ret := (some .boolean)) (by decide) rfl ?_
  intro p e s m args below meth c s₁ B hml htab hv
  obtain ⟨rfl, hsz, hP, hK, hD0, hE⟩ := hv
  have hx := B.exec
  have hb := B.bytes
  have hr := B.returns
  have hts0 := atoms_spec (ws := Cond.code yX11_poke cX11_poke 3 (some .boolean) :: lw_G) B.pre
  have hG : ∀ w ∈ lw_G, w.before _ s = true := fun w h => hts0 w (List.mem_cons_of_mem _ h)
  have hown : s.vm.findClass RX11 = some m.cls := findClass_of_methodNamed B.named
  have hlocks := B.notSynchronized
  subst hsz
  have hD := hD0.self (sz := s.heap.size)
  generalize hAe : va_A [(h0, .inr (11, [.ref h1, .ref h2, .ref h3, .ref h4, .ref h5, .int 0, .int 0]))] s.heap.size = A at hD hE ⊢
  have hA : ∀ q : Nat, s.heap.size ≤ q → A q := fun q h => by rw [← hAe]; exact Or.inr h
  have hS : va_S A s.heap s.heap [] := va_S.rf
  have hP : va_P (dC, dI) vwCl [(h0, .inr (11, [.ref h1, .ref h2, .ref h3, .ref h4, .ref h5, .int 0, .int 0]))] s.heap := hP
  have hl := lv_entry ([.ref h0, .int x0, .int x1]) (n := 3) (Nat.le_of_ble_eq_true rfl)
  rw [lg_entry_eq]
  generalize (lg_sl ([.ref h0, .int x0, .int x1]) ++ List.replicate (3 - (lg_sl ([.ref h0, .int x0, .int x1])).length) Slot.unset).toArray = ls at hl ⊢
  have hl : lv_has ls 3 [(0, .ref h0), (1, .int x0), (2, .int x1)] := hl
  refine lv_iload_n hx hb dX11_poke_0 rfl (lv_at hl 1 rfl) ?_
  refine lv_if_lt (tgt := 10) hx hb dX11_poke_1 (by decide) (fun c => absurd c (iv_nlt ix0 (by decide : iv 0 0 0) (by decide))) (fun _ => ?_)
  refine lv_iload_n hx hb dX11_poke_4 rfl (lv_at hl 1 rfl) ?_
  refine lv_ldc hx hb hown (hG _ wd_1157) dX11_poke_5 ?_
  refine lv_icmp_lt (tgt := 20) hx hb dX11_poke_7 (by decide) (fun c => absurd c (iv_nlt ix0 (by decide : iv 65536 65536 65536) (by decide))) (fun _ => ?_)
  have hP9 := hP.sub (ws' := [(h0, .inr (11, [.ref h1, .ref h2, .ref h3, .ref h4, .ref h5, .int 0, .int 0]))]) [0] rfl
  have hD9 := hD.sub (ws' := [(h0, .inr (11, [.ref h1, .ref h2, .ref h3, .ref h4, .ref h5, .int 0, .int 0]))]) [0] (by decide) rfl
  have hK9 := hK.sub (tys' := []) [] rfl
  refine vx_throwS (own := RX11) (cls := "java/lang/IndexOutOfBoundsException") (text := evT4) (names := ["java/lang/RuntimeException", "java/lang/Exception"]) hx hb hst hown (by decide) (by decide) (hG _ wd_1126) (hG _ wd_24) (evR4 hE) (evA1 hE hG) evG1_106 hE.2.2.2.1 hE.2.2.2.2.1 hS (by rw [hml]; exact hl.1) dX11_poke_10 dX11_poke_13 dX11_poke_14 dX11_poke_16 dX11_poke_19 (fun x hx9 => (htab x hx9).elim) (by decide) (by decide) (by decide) (by decide) hlocks (fun t hvm9 hz9 hk9 => ⟨(), trivial, ⟨rfl, hP9.kept (fun k q hk => hk9 q.1 (vx_lt hP9 hk)), va_K.moved hvm9 hK9, hD9⟩, Nat.le_trans hS.1 hz9, fun q hq hA9 => (hk9 q (Nat.lt_of_lt_of_le hq hS.1)).trans (hS.2.1 q hq hA9)⟩) hS.2.2 (by decide) (by decide)
set_option maxHeartbeats 4000000 in
set_option maxRecDepth 100000 in
theorem cL_poke_6 (l : Launch) (hst : l.stackTraces = false) (dC : Nat → ClassId) (dI : Nat → Nat → Nat) (adK adV : Nat → Nat) (h0 h1 h2 h3 h4 h5 h6 : Nat) (sz : Nat) (x0 x1 : Int32) (ix0 : iv x0 65536 2147483647) (ix1 : iv x1 0 255) : Met l yL_poke (Cond.codeWith yL_poke cL_poke 5 (some .int) [(0, 17, 20, 19)] :: lw_G) ({ frames := 7, cells := 1, slots := 6, locals := 104 }) (va_Pc [.ref h0, .int x0, .int x1, .ref h1] (fun U => U.heap.size = sz ∧ va_P (dC, dI) vwCl [(h0, .inr (11, [.ref h2, .ref h3, .ref h4, .ref h5, .ref h6, .int 0, .int 0]))] U.heap ∧ va_K (dC, dI) vwCl [] U ∧ va_D (fun _ => True) [(h0, .inr (11, [.ref h2, .ref h3, .ref h4, .ref h5, .ref h6, .int 0, .int 0]))] ∧ ev adK adV (va_A [(h0, .inr (11, [.ref h2, .ref h3, .ref h4, .ref h5, .ref h6, .int 0, .int 0]))] sz) U U.heap)) (va_Qi (fun (r : Int32) (u : Unit) => r = 1 ∧ True) (fun (u : Unit) (t : State) => va_P (dC, dI) vwCl [(h0, .inr (11, [.ref h2, .ref h3, .ref h4, .ref h5, .ref h6, .int 0, .int 0]))] t.heap ∧ va_K (dC, dI) vwCl [] t ∧ va_D (va_A [(h0, .inr (11, [.ref h2, .ref h3, .ref h4, .ref h5, .ref h6, .int 0, .int 0]))] sz) [(h0, .inr (11, [.ref h2, .ref h3, .ref h4, .ref h5, .ref h6, .int 0, .int 0]))]) (va_A [(h0, .inr (11, [.ref h2, .ref h3, .ref h4, .ref h5, .ref h6, .int 0, .int 0]))] sz)) 1 6 (va_A [(h0, .inr (11, [.ref h2, .ref h3, .ref h4, .ref h5, .ref h6, .int 0, .int 0]))] sz) := by
  refine va_MetW (cc := cL_poke) (maxL := 5) (ret := (some .int)) (by decide) rfl ?_
  intro p e s m args below meth c s₁ B hml hv
  obtain ⟨rfl, hsz, hP, hK, hD0, hE⟩ := hv
  have hx := B.exec
  have hb := B.bytes
  have hr := B.returns
  have hts0 := atoms_spec (ws := Cond.codeWith yL_poke cL_poke 5 (some .int) [(0, 17, 20, 19)] :: lw_G) B.pre
  have htab := vx_table (x := x) B (hts0 _ List.mem_cons_self)
  have hG : ∀ w ∈ lw_G, w.before _ s = true := fun w h => hts0 w (List.mem_cons_of_mem _ h)
  have hown : s.vm.findClass RL = some m.cls := findClass_of_methodNamed B.named
  have hlocks := B.notSynchronized
  subst hsz
  have hD := hD0.self (sz := s.heap.size)
  generalize hAe : va_A [(h0, .inr (11, [.ref h2, .ref h3, .ref h4, .ref h5, .ref h6, .int 0, .int 0]))] s.heap.size = A at hD hE ⊢
  have hA : ∀ q : Nat, s.heap.size ≤ q → A q := fun q h => by rw [← hAe]; exact Or.inr h
  have hS : va_S A s.heap s.heap [] := va_S.rf
  have hP : va_P (dC, dI) vwCl [(h0, .inr (11, [.ref h2, .ref h3, .ref h4, .ref h5, .ref h6, .int 0, .int 0]))] s.heap := hP
  have hl := lv_entry ([.ref h0, .int x0, .int x1, .ref h1]) (n := 5) (Nat.le_of_ble_eq_true rfl)
  rw [lg_entry_eq]
  generalize (lg_sl ([.ref h0, .int x0, .int x1, .ref h1]) ++ List.replicate (5 - (lg_sl ([.ref h0, .int x0, .int x1, .ref h1])).length) Slot.unset).toArray = ls at hl ⊢
  have hl : lv_has ls 5 [(0, .ref h0), (1, .int x0), (2, .int x1), (3, .ref h1)] := hl
  refine lv_aload_n hx hb dL_poke_0 rfl (lv_at hl 3 rfl) ?_
  refine lv_iconst (v := 0) hx hb dL_poke_1 (by decide) ?_
  refine lv_aload_n hx hb dL_poke_2 rfl (lv_at hl 0 rfl) ?_
  refine lv_iload_n hx hb dL_poke_3 rfl (lv_at hl 1 rfl) ?_
  refine lv_iload_n hx hb dL_poke_4 rfl (lv_at hl 2 rfl) ?_
  have hPc := hP.sub (ws' := [(h0, .inr (11, [.ref h2, .ref h3, .ref h4, .ref h5, .ref h6, .int 0, .int 0]))]) [0] rfl
  have hDc := hD.sub (ws' := [(h0, .inr (11, [.ref h2, .ref h3, .ref h4, .ref h5, .ref h6, .int 0, .int 0]))]) [0] (by decide) rfl
  have hKc := hK.sub (tys' := []) [] rfl
  have hFc := va_free (wc := [(h0, .inr (11, [.ref h2, .ref h3, .ref h4, .ref h5, .ref h6, .int 0, .int 0]))]) hD hS hA [0] rfl
  refine vx_calli (vx_runV (As := [.int x0, .int x1]) (rest := [.int 0, .ref h1]) ⟨hx, hb, hml, hown, hG⟩ (cX11_poke_6 l hst dC dI adK adV h0 h2 h3 h4 h5 h6 s.heap.size x0 x1 ix0 ix1) (cwV 2 hG (gV wd_1166 wd_1167 wd_1168 wd_1 wd_1169) rfl rfl rfl (by decide +kernel) ⟨Nat.le_of_ble_eq_true rfl, Nat.le_of_ble_eq_true rfl⟩) ⟨fun a U g mk q => by obtain ⟨q0, q1, qP, qK, qD, qE⟩ := q; exact ⟨q0, q1, qP, va_K.moved (u := U) (U := U.calling g mk a) (Vm.Alike.refl U.vm) qK, qD, qE.same rfl⟩, va_recv hKc hPc (ci := 11) (q0 := 0) rfl rfl, fun U hU hW => ⟨rfl, by rw [hU], by rw [hU]; exact hPc, va_K.moved hW.alike hKc, hDc.weaken (fun _ _ _ _ => trivial), by rw [hU]; exact ((hE.kept hS.2.1).narrow hFc).warm hW⟩⟩ rfl rfl hl.1 rfl (lv_room (Nat.le_of_ble_eq_true rfl)) dL_poke_5 ⟨by decide, by decide⟩) hS (fun q _ h => hFc q h) hFc (fun q _ h => hFc q h) (fun E9 ce q1 u9 t H1 locs ht hvm hpx hB hz1 hk1 hS hce hcv hcl => ?_) (fun r u t H1 locs ht hvm hw hB hz1 hk1 hS => hw.elim)
  obtain ⟨rfl, hP1, hK1, hD1⟩ := hB
  rw [ht] at hP1
  have hK1 := va_K.moved hvm.symm hK1
  obtain ⟨hP, hD⟩ := va_join (wr := []) (w1 := [(h0, .inr (11, [.ref h2, .ref h3, .ref h4, .ref h5, .ref h6, .int 0, .int 0]))]) hP hD [0] [] rfl rfl (by decide) (by decide) hk1 hFc hP1 hD1
  have hK := (hK.sub (tys' := []) [] rfl).app hK1
  generalize H1 = H at hP hS hce ⊢
  have hP : va_P (dC, dI) vwCl [(h0, .inr (11, [.ref h2, .ref h3, .ref h4, .ref h5, .ref h6, .int 0, .int 0]))] H := hP
  have hD : va_D A [(h0, .inr (11, [.ref h2, .ref h3, .ref h4, .ref h5, .ref h6, .int 0, .int 0]))] := hD
  have hK : va_K (dC, dI) vwCl [] s := hK
  refine vx_widen (k := 1) (n := 6) (by decide) (by decide) ?_
  refine vx_catch (name := "java/lang/IndexOutOfBoundsException") hown [] { startPc := 0, endPc := 17, handlerPc := 20, catchType := 19 } [] (by rw [htab]; rfl) (fun z hz => nomatch hz) (by decide) (by decide) (hG _ wd_1121) (evC1 hE) hce hcv hcl ?_
  refine lv_astore (lv' := [(4, .ref q1), (0, .ref h0), (1, .int x0), (2, .int x1), (3, .ref h1)]) hx hb dL_poke_20 hl (by decide) rfl (fun ls hl => ?_)
  refine lv_iconst (v := 1) hx hb dL_poke_22 (by decide) ?_
  have hP9 := hP.sub (ws' := [(h0, .inr (11, [.ref h2, .ref h3, .ref h4, .ref h5, .ref h6, .int 0, .int 0]))]) [0] rfl
  have hD9 := hD.sub (ws' := [(h0, .inr (11, [.ref h2, .ref h3, .ref h4, .ref h5, .ref h6, .int 0, .int 0]))]) [0] (by decide) rfl
  have hK9 := hK.sub (tys' := []) [] rfl
  refine W.widen (k := 1) (n := 6) (by decide) (by decide) ?_
  exact W.iret (v := 1) hx hb hr (fun t ht hW => ⟨⟨1, (), rfl, ⟨rfl, trivial⟩, by rw [ht]; exact hP9, va_K.moved hW.alike hK9, hD9⟩, hS.F ht⟩) hS.2.2 dL_poke_23
set_option maxHeartbeats 4000000 in
set_option maxRecDepth 100000 in
theorem cX11_poke_7 (l : Launch) (dC : Nat → ClassId) (dI : Nat → Nat → Nat) (h0 h1 h2 h3 h4 h5 : Nat) (sz : Nat) (x0 x1 : Int32) (ix0 : iv x0 0 65535) (ix1 : iv x1 (-2147483648) (-1)) : Met l yX11_poke (Cond.code yX11_poke cX11_poke 3 (some .boolean) :: lw_G) ({ frames := 0, cells := 0, slots := 0, locals := 0 }) (va_Pc [.ref h0, .int x0, .int x1] (fun U => U.heap.size = sz ∧ va_P (dC, dI) vwCl [(h0, .inr (11, [.ref h1, .ref h2, .ref h3, .ref h4, .ref h5, .int 0, .int 0]))] U.heap ∧ va_K (dC, dI) vwCl [] U ∧ va_D (fun _ => True) [(h0, .inr (11, [.ref h1, .ref h2, .ref h3, .ref h4, .ref h5, .int 0, .int 0]))])) (va_Qi (fun (r : Int32) (u : Unit) => r = 0 ∧ True) (fun (u : Unit) (t : State) => va_P (dC, dI) vwCl [(h0, .inr (11, [.ref h1, .ref h2, .ref h3, .ref h4, .ref h5, .int 0, .int 0]))] t.heap ∧ va_K (dC, dI) vwCl [] t ∧ va_D (va_A [(h0, .inr (11, [.ref h1, .ref h2, .ref h3, .ref h4, .ref h5, .int 0, .int 0]))] sz) [(h0, .inr (11, [.ref h1, .ref h2, .ref h3, .ref h4, .ref h5, .int 0, .int 0]))]) (va_A [(h0, .inr (11, [.ref h1, .ref h2, .ref h3, .ref h4, .ref h5, .int 0, .int 0]))] sz)) 0 0 (va_A [(h0, .inr (11, [.ref h1, .ref h2, .ref h3, .ref h4, .ref h5, .int 0, .int 0]))] sz) := by
  refine Met.ofW (cc := cX11_poke) (maxL := 3) (ret := (some .boolean)) (by decide) rfl ?_
  intro p e s m args below meth c s₁ B hml hv
  obtain ⟨rfl, hsz, hP, hK, hD0⟩ := hv
  have hx := B.exec
  have hb := B.bytes
  have hr := B.returns
  have hts0 := atoms_spec (ws := Cond.code yX11_poke cX11_poke 3 (some .boolean) :: lw_G) B.pre
  have hG : ∀ w ∈ lw_G, w.before _ s = true := fun w h => hts0 w (List.mem_cons_of_mem _ h)
  have hown : s.vm.findClass RX11 = some m.cls := findClass_of_methodNamed B.named
  have hlocks := B.notSynchronized
  subst hsz
  have hD := hD0.self (sz := s.heap.size)
  generalize hAe : va_A [(h0, .inr (11, [.ref h1, .ref h2, .ref h3, .ref h4, .ref h5, .int 0, .int 0]))] s.heap.size = A at hD ⊢
  have hA : ∀ q : Nat, s.heap.size ≤ q → A q := fun q h => by rw [← hAe]; exact Or.inr h
  have hS : va_S A s.heap s.heap [] := va_S.rf
  have hP : va_P (dC, dI) vwCl [(h0, .inr (11, [.ref h1, .ref h2, .ref h3, .ref h4, .ref h5, .int 0, .int 0]))] s.heap := hP
  have hl := lv_entry ([.ref h0, .int x0, .int x1]) (n := 3) (Nat.le_of_ble_eq_true rfl)
  rw [lg_entry_eq]
  generalize (lg_sl ([.ref h0, .int x0, .int x1]) ++ List.replicate (3 - (lg_sl ([.ref h0, .int x0, .int x1])).length) Slot.unset).toArray = ls at hl ⊢
  have hl : lv_has ls 3 [(0, .ref h0), (1, .int x0), (2, .int x1)] := hl
  refine lv_iload_n hx hb dX11_poke_0 rfl (lv_at hl 1 rfl) ?_
  refine lv_if_lt (tgt := 10) hx hb dX11_poke_1 (by decide) (fun c => absurd c (iv_nlt ix0 (by decide : iv 0 0 0) (by decide))) (fun _ => ?_)
  refine lv_iload_n hx hb dX11_poke_4 rfl (lv_at hl 1 rfl) ?_
  refine lv_ldc hx hb hown (hG _ wd_1157) dX11_poke_5 ?_
  refine lv_icmp_lt (tgt := 20) hx hb dX11_poke_7 (by decide) (fun _ => ?_) (fun c => absurd (iv_lt ix0 (by decide : iv 65536 65536 65536) (by decide)) c)
  refine lv_iload_n hx hb dX11_poke_20 rfl (lv_at hl 2 rfl) ?_
  refine lv_if_lt (tgt := 31) hx hb dX11_poke_21 (by decide) (fun _ => ?_) (fun c => absurd (iv_lt ix1 (by decide : iv 0 0 0) (by decide)) c)
  refine lv_iconst (v := 0) hx hb dX11_poke_31 (by decide) ?_
  have hP9 := hP.sub (ws' := [(h0, .inr (11, [.ref h1, .ref h2, .ref h3, .ref h4, .ref h5, .int 0, .int 0]))]) [0] rfl
  have hD9 := hD.sub (ws' := [(h0, .inr (11, [.ref h1, .ref h2, .ref h3, .ref h4, .ref h5, .int 0, .int 0]))]) [0] (by decide) rfl
  have hK9 := hK.sub (tys' := []) [] rfl
  exact W.zret (v := 0) hx hb hr rfl (fun t ht hW => ⟨⟨0, (), rfl, ⟨rfl, trivial⟩, by rw [ht]; exact hP9, va_K.moved hW.alike hK9, hD9⟩, hS.F ht⟩) hS.2.2 dX11_poke_32
set_option maxHeartbeats 4000000 in
set_option maxRecDepth 100000 in
theorem cL_poke_7 (l : Launch) (dC : Nat → ClassId) (dI : Nat → Nat → Nat) (h0 h1 h2 h3 h4 h5 h6 : Nat) (y0 : ClassId) (sz : Nat) (x0 x1 : Int32) (ix0 : iv x0 0 65535) (ix1 : iv x1 (-2147483648) (-1)) : Met l yL_poke (Cond.codeWith yL_poke cL_poke 5 (some .int) [(0, 17, 20, 19)] :: lw_G) ({ frames := 1, cells := 0, slots := 0, locals := 22 }) (va_Pc [.ref h0, .int x0, .int x1, .ref h1] (fun U => U.heap.size = sz ∧ va_P (dC, dI) vwCl [(h0, .inr (11, [.ref h2, .ref h3, .ref h4, .ref h5, .ref h6, .int 0, .int 0])), (h1, .inl (y0, 1, .inr (.inl (fun _ => 0))))] U.heap ∧ va_K (dC, dI) vwCl [(y0, .long)] U ∧ va_D (fun _ => True) [(h0, .inr (11, [.ref h2, .ref h3, .ref h4, .ref h5, .ref h6, .int 0, .int 0])), (h1, .inl (y0, 1, .inr (.inl (fun _ => 0))))])) (va_Qi (fun (r : Int32) (u : (Nat → Int64)) => r = 0 ∧ u 0 = 0 ∧ True) (fun (u : (Nat → Int64)) (t : State) => va_P (dC, dI) vwCl [(h0, .inr (11, [.ref h2, .ref h3, .ref h4, .ref h5, .ref h6, .int 0, .int 0])), (h1, .inl (y0, 1, .inr (.inl u)))] t.heap ∧ va_K (dC, dI) vwCl [(y0, .long)] t ∧ va_D (va_A [(h0, .inr (11, [.ref h2, .ref h3, .ref h4, .ref h5, .ref h6, .int 0, .int 0])), (h1, .inl (y0, 1, .inr (.inl (fun _ => 0))))] sz) [(h0, .inr (11, [.ref h2, .ref h3, .ref h4, .ref h5, .ref h6, .int 0, .int 0])), (h1, .inl (y0, 1, .inr (.inl u)))]) (va_A [(h0, .inr (11, [.ref h2, .ref h3, .ref h4, .ref h5, .ref h6, .int 0, .int 0])), (h1, .inl (y0, 1, .inr (.inl (fun _ => 0))))] sz)) 0 0 (va_A [(h0, .inr (11, [.ref h2, .ref h3, .ref h4, .ref h5, .ref h6, .int 0, .int 0])), (h1, .inl (y0, 1, .inr (.inl (fun _ => 0))))] sz) := by
  refine va_MetW (cc := cL_poke) (maxL := 5) (ret := (some .int)) (by decide) rfl ?_
  intro p e s m args below meth c s₁ B hml hv
  obtain ⟨rfl, hsz, hP, hK, hD0⟩ := hv
  have hx := B.exec
  have hb := B.bytes
  have hr := B.returns
  have hts0 := atoms_spec (ws := Cond.codeWith yL_poke cL_poke 5 (some .int) [(0, 17, 20, 19)] :: lw_G) B.pre
  have htab := vx_table (x := x) B (hts0 _ List.mem_cons_self)
  have hG : ∀ w ∈ lw_G, w.before _ s = true := fun w h => hts0 w (List.mem_cons_of_mem _ h)
  have hown : s.vm.findClass RL = some m.cls := findClass_of_methodNamed B.named
  have hlocks := B.notSynchronized
  subst hsz
  have hD := hD0.self (sz := s.heap.size)
  generalize hAe : va_A [(h0, .inr (11, [.ref h2, .ref h3, .ref h4, .ref h5, .ref h6, .int 0, .int 0])), (h1, .inl (y0, 1, .inr (.inl (fun _ => 0))))] s.heap.size = A at hD ⊢
  have hA : ∀ q : Nat, s.heap.size ≤ q → A q := fun q h => by rw [← hAe]; exact Or.inr h
  have hS : va_S A s.heap s.heap [] := va_S.rf
  have hP : va_P (dC, dI) vwCl [(h0, .inr (11, [.ref h2, .ref h3, .ref h4, .ref h5, .ref h6, .int 0, .int 0])), (h1, .inl (y0, 1, .inr (.inl (fun _ => 0))))] s.heap := hP
  have hl := lv_entry ([.ref h0, .int x0, .int x1, .ref h1]) (n := 5) (Nat.le_of_ble_eq_true rfl)
  rw [lg_entry_eq]
  generalize (lg_sl ([.ref h0, .int x0, .int x1, .ref h1]) ++ List.replicate (5 - (lg_sl ([.ref h0, .int x0, .int x1, .ref h1])).length) Slot.unset).toArray = ls at hl ⊢
  have hl : lv_has ls 5 [(0, .ref h0), (1, .int x0), (2, .int x1), (3, .ref h1)] := hl
  refine lv_aload_n hx hb dL_poke_0 rfl (lv_at hl 3 rfl) ?_
  refine lv_iconst (v := 0) hx hb dL_poke_1 (by decide) ?_
  refine lv_aload_n hx hb dL_poke_2 rfl (lv_at hl 0 rfl) ?_
  refine lv_iload_n hx hb dL_poke_3 rfl (lv_at hl 1 rfl) ?_
  refine lv_iload_n hx hb dL_poke_4 rfl (lv_at hl 2 rfl) ?_
  have hPc := hP.sub (ws' := [(h0, .inr (11, [.ref h2, .ref h3, .ref h4, .ref h5, .ref h6, .int 0, .int 0]))]) [0] rfl
  have hDc := hD.sub (ws' := [(h0, .inr (11, [.ref h2, .ref h3, .ref h4, .ref h5, .ref h6, .int 0, .int 0]))]) [0] (by decide) rfl
  have hKc := hK.sub (tys' := []) [] rfl
  have hFc := va_free (wc := [(h0, .inr (11, [.ref h2, .ref h3, .ref h4, .ref h5, .ref h6, .int 0, .int 0]))]) hD hS hA [0] rfl
  refine va_calli (va_runV (As := [.int x0, .int x1]) (rest := [.int 0, .ref h1]) ⟨hx, hb, hml, hown, hG⟩ (cX11_poke_7 l dC dI h0 h2 h3 h4 h5 h6 s.heap.size x0 x1 ix0 ix1) (cwV 2 hG (gV wd_1166 wd_1167 wd_1168 wd_1 wd_1169) rfl rfl rfl (by decide +kernel) ⟨Nat.le_of_ble_eq_true rfl, Nat.le_of_ble_eq_true rfl⟩) ⟨fun a U g mk q => by obtain ⟨q0, q1, qP, qK, qD⟩ := q; exact ⟨q0, q1, qP, va_K.moved (u := U) (U := U.calling g mk a) (Vm.Alike.refl U.vm) qK, qD⟩, va_recv hKc hPc (ci := 11) (q0 := 0) rfl rfl, fun U hU hW => ⟨rfl, by rw [hU], by rw [hU]; exact hPc, va_K.moved hW.alike hKc, hDc.weaken (fun _ _ _ _ => trivial)⟩⟩ rfl rfl hl.1 rfl (lv_room (Nat.le_of_ble_eq_true rfl)) dL_poke_5 ⟨by decide, by decide⟩) hS (fun q _ h => hFc q h) hFc (fun r1 u2 t H1 locs ht hvm hw hB hz1 hk1 hS => ?_)
  have hw : r1 = 0 ∧ True := hw
  obtain ⟨er1, -⟩ := hw
  obtain ⟨hP1, hK1, hD1⟩ := hB
  rw [ht] at hP1
  have hK1 := va_K.moved hvm.symm hK1
  obtain ⟨hP, hD⟩ := va_join (wr := [(h1, .inl (y0, 1, .inr (.inl (fun _ => 0))))]) (w1 := [(h0, .inr (11, [.ref h2, .ref h3, .ref h4, .ref h5, .ref h6, .int 0, .int 0]))]) hP hD [0] [1] rfl rfl (by decide) (by decide) hk1 hFc hP1 hD1
  have hK := (hK.sub (tys' := [(y0, .long)]) [0] rfl).app hK1
  generalize H1 = H at hP hS ⊢
  have hP : va_P (dC, dI) vwCl [(h1, .inl (y0, 1, .inr (.inl (fun _ => 0)))), (h0, .inr (11, [.ref h2, .ref h3, .ref h4, .ref h5, .ref h6, .int 0, .int 0]))] H := hP
  have hD : va_D A [(h1, .inl (y0, 1, .inr (.inl (fun _ => 0)))), (h0, .inr (11, [.ref h2, .ref h3, .ref h4, .ref h5, .ref h6, .int 0, .int 0]))] := hD
  have hK : va_K (dC, dI) vwCl [(y0, .long)] s := hK
  subst er1
  refine lv_if_eq (tgt := 15) hx hb dL_poke_8 (by decide) (fun _ => ?_) (fun c => absurd (by decide) c)
  refine lv_lconst (v := 0) hx hb dL_poke_15 (by decide) ?_
  refine va_last hx hb hK hP hD hS 0 0 rfl rfl (iv_in (by decide : iv 0 0 0) (by decide) (by decide) : vp_in 0 1) dL_poke_16 (fun H locs hP hD hS => ?_)
  have hP : va_P (dC, dI) vwCl [(h1, .inl (y0, 1, .inr (.inl (vp_updL (fun _ => 0) (0 : Int32).toNatClampNeg 0)))), (h0, .inr (11, [.ref h2, .ref h3, .ref h4, .ref h5, .ref h6, .int 0, .int 0]))] H := hP
  have hD : va_D A [(h1, .inl (y0, 1, .inr (.inl (vp_updL (fun _ => 0) (0 : Int32).toNatClampNeg 0)))), (h0, .inr (11, [.ref h2, .ref h3, .ref h4, .ref h5, .ref h6, .int 0, .int 0]))] := hD
  obtain ⟨f3, ef3⟩ : ∃ z, z = vp_updL (fun _ => 0) (0 : Int32).toNatClampNeg 0 := ⟨_, rfl⟩
  rw [← ef3] at hP hD
  refine lv_goto (tgt := 24) hx hb dL_poke_17 (by decide) ?_
  refine lv_iconst (v := 0) hx hb dL_poke_24 (by decide) ?_
  have hP9 := hP.sub (ws' := [(h0, .inr (11, [.ref h2, .ref h3, .ref h4, .ref h5, .ref h6, .int 0, .int 0])), (h1, .inl (y0, 1, .inr (.inl f3)))]) [1, 0] rfl
  have hD9 := hD.sub (ws' := [(h0, .inr (11, [.ref h2, .ref h3, .ref h4, .ref h5, .ref h6, .int 0, .int 0])), (h1, .inl (y0, 1, .inr (.inl f3)))]) [1, 0] (by decide) rfl
  have hK9 := hK.sub (tys' := [(y0, .long)]) [0] rfl
  exact W.iret (v := 0) hx hb hr (fun t ht hW => ⟨⟨0, f3, rfl, ⟨rfl, (kuL ef3 (by decide)), trivial⟩, by rw [ht]; exact hP9, va_K.moved hW.alike hK9, hD9⟩, hS.F ht⟩) hS.2.2 dL_poke_25
set_option maxHeartbeats 4000000 in
set_option maxRecDepth 100000 in
theorem cX11_poke_8 (l : Launch) (dC : Nat → ClassId) (dI : Nat → Nat → Nat) (h0 h1 h2 h3 h4 h5 : Nat) (sz : Nat) (x0 x1 : Int32) (ix0 : iv x0 0 65535) (ix1 : iv x1 256 2147483647) : Met l yX11_poke (Cond.code yX11_poke cX11_poke 3 (some .boolean) :: lw_G) ({ frames := 0, cells := 0, slots := 0, locals := 0 }) (va_Pc [.ref h0, .int x0, .int x1] (fun U => U.heap.size = sz ∧ va_P (dC, dI) vwCl [(h0, .inr (11, [.ref h1, .ref h2, .ref h3, .ref h4, .ref h5, .int 0, .int 0]))] U.heap ∧ va_K (dC, dI) vwCl [] U ∧ va_D (fun _ => True) [(h0, .inr (11, [.ref h1, .ref h2, .ref h3, .ref h4, .ref h5, .int 0, .int 0]))])) (va_Qi (fun (r : Int32) (u : Unit) => r = 0 ∧ True) (fun (u : Unit) (t : State) => va_P (dC, dI) vwCl [(h0, .inr (11, [.ref h1, .ref h2, .ref h3, .ref h4, .ref h5, .int 0, .int 0]))] t.heap ∧ va_K (dC, dI) vwCl [] t ∧ va_D (va_A [(h0, .inr (11, [.ref h1, .ref h2, .ref h3, .ref h4, .ref h5, .int 0, .int 0]))] sz) [(h0, .inr (11, [.ref h1, .ref h2, .ref h3, .ref h4, .ref h5, .int 0, .int 0]))]) (va_A [(h0, .inr (11, [.ref h1, .ref h2, .ref h3, .ref h4, .ref h5, .int 0, .int 0]))] sz)) 0 0 (va_A [(h0, .inr (11, [.ref h1, .ref h2, .ref h3, .ref h4, .ref h5, .int 0, .int 0]))] sz) := by
  refine Met.ofW (cc := cX11_poke) (maxL := 3) (ret := (some .boolean)) (by decide) rfl ?_
  intro p e s m args below meth c s₁ B hml hv
  obtain ⟨rfl, hsz, hP, hK, hD0⟩ := hv
  have hx := B.exec
  have hb := B.bytes
  have hr := B.returns
  have hts0 := atoms_spec (ws := Cond.code yX11_poke cX11_poke 3 (some .boolean) :: lw_G) B.pre
  have hG : ∀ w ∈ lw_G, w.before _ s = true := fun w h => hts0 w (List.mem_cons_of_mem _ h)
  have hown : s.vm.findClass RX11 = some m.cls := findClass_of_methodNamed B.named
  have hlocks := B.notSynchronized
  subst hsz
  have hD := hD0.self (sz := s.heap.size)
  generalize hAe : va_A [(h0, .inr (11, [.ref h1, .ref h2, .ref h3, .ref h4, .ref h5, .int 0, .int 0]))] s.heap.size = A at hD ⊢
  have hA : ∀ q : Nat, s.heap.size ≤ q → A q := fun q h => by rw [← hAe]; exact Or.inr h
  have hS : va_S A s.heap s.heap [] := va_S.rf
  have hP : va_P (dC, dI) vwCl [(h0, .inr (11, [.ref h1, .ref h2, .ref h3, .ref h4, .ref h5, .int 0, .int 0]))] s.heap := hP
  have hl := lv_entry ([.ref h0, .int x0, .int x1]) (n := 3) (Nat.le_of_ble_eq_true rfl)
  rw [lg_entry_eq]
  generalize (lg_sl ([.ref h0, .int x0, .int x1]) ++ List.replicate (3 - (lg_sl ([.ref h0, .int x0, .int x1])).length) Slot.unset).toArray = ls at hl ⊢
  have hl : lv_has ls 3 [(0, .ref h0), (1, .int x0), (2, .int x1)] := hl
  refine lv_iload_n hx hb dX11_poke_0 rfl (lv_at hl 1 rfl) ?_
  refine lv_if_lt (tgt := 10) hx hb dX11_poke_1 (by decide) (fun c => absurd c (iv_nlt ix0 (by decide : iv 0 0 0) (by decide))) (fun _ => ?_)
  refine lv_iload_n hx hb dX11_poke_4 rfl (lv_at hl 1 rfl) ?_
  refine lv_ldc hx hb hown (hG _ wd_1157) dX11_poke_5 ?_
  refine lv_icmp_lt (tgt := 20) hx hb dX11_poke_7 (by decide) (fun _ => ?_) (fun c => absurd (iv_lt ix0 (by decide : iv 65536 65536 65536) (by decide)) c)
  refine lv_iload_n hx hb dX11_poke_20 rfl (lv_at hl 2 rfl) ?_
  refine lv_if_lt (tgt := 31) hx hb dX11_poke_21 (by decide) (fun c => absurd c (iv_nlt ix1 (by decide : iv 0 0 0) (by decide))) (fun _ => ?_)
  refine lv_iload_n hx hb dX11_poke_24 rfl (lv_at hl 2 rfl) ?_
  refine lv_sipush (v := 255) hx hb dX11_poke_25 (by decide) ?_
  refine lv_icmp_le (tgt := 33) hx hb dX11_poke_28 (by decide) (fun c => absurd c (iv_nle ix1 (by decide : iv 255 255 255) (by decide))) (fun _ => ?_)
  refine lv_iconst (v := 0) hx hb dX11_poke_31 (by decide) ?_
  have hP9 := hP.sub (ws' := [(h0, .inr (11, [.ref h1, .ref h2, .ref h3, .ref h4, .ref h5, .int 0, .int 0]))]) [0] rfl
  have hD9 := hD.sub (ws' := [(h0, .inr (11, [.ref h1, .ref h2, .ref h3, .ref h4, .ref h5, .int 0, .int 0]))]) [0] (by decide) rfl
  have hK9 := hK.sub (tys' := []) [] rfl
  exact W.zret (v := 0) hx hb hr rfl (fun t ht hW => ⟨⟨0, (), rfl, ⟨rfl, trivial⟩, by rw [ht]; exact hP9, va_K.moved hW.alike hK9, hD9⟩, hS.F ht⟩) hS.2.2 dX11_poke_32
set_option maxHeartbeats 4000000 in
set_option maxRecDepth 100000 in
theorem cL_poke_8 (l : Launch) (dC : Nat → ClassId) (dI : Nat → Nat → Nat) (h0 h1 h2 h3 h4 h5 h6 : Nat) (y0 : ClassId) (sz : Nat) (x0 x1 : Int32) (ix0 : iv x0 0 65535) (ix1 : iv x1 256 2147483647) : Met l yL_poke (Cond.codeWith yL_poke cL_poke 5 (some .int) [(0, 17, 20, 19)] :: lw_G) ({ frames := 1, cells := 0, slots := 0, locals := 22 }) (va_Pc [.ref h0, .int x0, .int x1, .ref h1] (fun U => U.heap.size = sz ∧ va_P (dC, dI) vwCl [(h0, .inr (11, [.ref h2, .ref h3, .ref h4, .ref h5, .ref h6, .int 0, .int 0])), (h1, .inl (y0, 1, .inr (.inl (fun _ => 0))))] U.heap ∧ va_K (dC, dI) vwCl [(y0, .long)] U ∧ va_D (fun _ => True) [(h0, .inr (11, [.ref h2, .ref h3, .ref h4, .ref h5, .ref h6, .int 0, .int 0])), (h1, .inl (y0, 1, .inr (.inl (fun _ => 0))))])) (va_Qi (fun (r : Int32) (u : (Nat → Int64)) => r = 0 ∧ u 0 = 0 ∧ True) (fun (u : (Nat → Int64)) (t : State) => va_P (dC, dI) vwCl [(h0, .inr (11, [.ref h2, .ref h3, .ref h4, .ref h5, .ref h6, .int 0, .int 0])), (h1, .inl (y0, 1, .inr (.inl u)))] t.heap ∧ va_K (dC, dI) vwCl [(y0, .long)] t ∧ va_D (va_A [(h0, .inr (11, [.ref h2, .ref h3, .ref h4, .ref h5, .ref h6, .int 0, .int 0])), (h1, .inl (y0, 1, .inr (.inl (fun _ => 0))))] sz) [(h0, .inr (11, [.ref h2, .ref h3, .ref h4, .ref h5, .ref h6, .int 0, .int 0])), (h1, .inl (y0, 1, .inr (.inl u)))]) (va_A [(h0, .inr (11, [.ref h2, .ref h3, .ref h4, .ref h5, .ref h6, .int 0, .int 0])), (h1, .inl (y0, 1, .inr (.inl (fun _ => 0))))] sz)) 0 0 (va_A [(h0, .inr (11, [.ref h2, .ref h3, .ref h4, .ref h5, .ref h6, .int 0, .int 0])), (h1, .inl (y0, 1, .inr (.inl (fun _ => 0))))] sz) := by
  refine va_MetW (cc := cL_poke) (maxL := 5) (ret := (some .int)) (by decide) rfl ?_
  intro p e s m args below meth c s₁ B hml hv
  obtain ⟨rfl, hsz, hP, hK, hD0⟩ := hv
  have hx := B.exec
  have hb := B.bytes
  have hr := B.returns
  have hts0 := atoms_spec (ws := Cond.codeWith yL_poke cL_poke 5 (some .int) [(0, 17, 20, 19)] :: lw_G) B.pre
  have htab := vx_table (x := x) B (hts0 _ List.mem_cons_self)
  have hG : ∀ w ∈ lw_G, w.before _ s = true := fun w h => hts0 w (List.mem_cons_of_mem _ h)
  have hown : s.vm.findClass RL = some m.cls := findClass_of_methodNamed B.named
  have hlocks := B.notSynchronized
  subst hsz
  have hD := hD0.self (sz := s.heap.size)
  generalize hAe : va_A [(h0, .inr (11, [.ref h2, .ref h3, .ref h4, .ref h5, .ref h6, .int 0, .int 0])), (h1, .inl (y0, 1, .inr (.inl (fun _ => 0))))] s.heap.size = A at hD ⊢
  have hA : ∀ q : Nat, s.heap.size ≤ q → A q := fun q h => by rw [← hAe]; exact Or.inr h
  have hS : va_S A s.heap s.heap [] := va_S.rf
  have hP : va_P (dC, dI) vwCl [(h0, .inr (11, [.ref h2, .ref h3, .ref h4, .ref h5, .ref h6, .int 0, .int 0])), (h1, .inl (y0, 1, .inr (.inl (fun _ => 0))))] s.heap := hP
  have hl := lv_entry ([.ref h0, .int x0, .int x1, .ref h1]) (n := 5) (Nat.le_of_ble_eq_true rfl)
  rw [lg_entry_eq]
  generalize (lg_sl ([.ref h0, .int x0, .int x1, .ref h1]) ++ List.replicate (5 - (lg_sl ([.ref h0, .int x0, .int x1, .ref h1])).length) Slot.unset).toArray = ls at hl ⊢
  have hl : lv_has ls 5 [(0, .ref h0), (1, .int x0), (2, .int x1), (3, .ref h1)] := hl
  refine lv_aload_n hx hb dL_poke_0 rfl (lv_at hl 3 rfl) ?_
  refine lv_iconst (v := 0) hx hb dL_poke_1 (by decide) ?_
  refine lv_aload_n hx hb dL_poke_2 rfl (lv_at hl 0 rfl) ?_
  refine lv_iload_n hx hb dL_poke_3 rfl (lv_at hl 1 rfl) ?_
  refine lv_iload_n hx hb dL_poke_4 rfl (lv_at hl 2 rfl) ?_
  have hPc := hP.sub (ws' := [(h0, .inr (11, [.ref h2, .ref h3, .ref h4, .ref h5, .ref h6, .int 0, .int 0]))]) [0] rfl
  have hDc := hD.sub (ws' := [(h0, .inr (11, [.ref h2, .ref h3, .ref h4, .ref h5, .ref h6, .int 0, .int 0]))]) [0] (by decide) rfl
  have hKc := hK.sub (tys' := []) [] rfl
  have hFc := va_free (wc := [(h0, .inr (11, [.ref h2, .ref h3, .ref h4, .ref h5, .ref h6, .int 0, .int 0]))]) hD hS hA [0] rfl
  refine va_calli (va_runV (As := [.int x0, .int x1]) (rest := [.int 0, .ref h1]) ⟨hx, hb, hml, hown, hG⟩ (cX11_poke_8 l dC dI h0 h2 h3 h4 h5 h6 s.heap.size x0 x1 ix0 ix1) (cwV 2 hG (gV wd_1166 wd_1167 wd_1168 wd_1 wd_1169) rfl rfl rfl (by decide +kernel) ⟨Nat.le_of_ble_eq_true rfl, Nat.le_of_ble_eq_true rfl⟩) ⟨fun a U g mk q => by obtain ⟨q0, q1, qP, qK, qD⟩ := q; exact ⟨q0, q1, qP, va_K.moved (u := U) (U := U.calling g mk a) (Vm.Alike.refl U.vm) qK, qD⟩, va_recv hKc hPc (ci := 11) (q0 := 0) rfl rfl, fun U hU hW => ⟨rfl, by rw [hU], by rw [hU]; exact hPc, va_K.moved hW.alike hKc, hDc.weaken (fun _ _ _ _ => trivial)⟩⟩ rfl rfl hl.1 rfl (lv_room (Nat.le_of_ble_eq_true rfl)) dL_poke_5 ⟨by decide, by decide⟩) hS (fun q _ h => hFc q h) hFc (fun r1 u2 t H1 locs ht hvm hw hB hz1 hk1 hS => ?_)
  have hw : r1 = 0 ∧ True := hw
  obtain ⟨er1, -⟩ := hw
  obtain ⟨hP1, hK1, hD1⟩ := hB
  rw [ht] at hP1
  have hK1 := va_K.moved hvm.symm hK1
  obtain ⟨hP, hD⟩ := va_join (wr := [(h1, .inl (y0, 1, .inr (.inl (fun _ => 0))))]) (w1 := [(h0, .inr (11, [.ref h2, .ref h3, .ref h4, .ref h5, .ref h6, .int 0, .int 0]))]) hP hD [0] [1] rfl rfl (by decide) (by decide) hk1 hFc hP1 hD1
  have hK := (hK.sub (tys' := [(y0, .long)]) [0] rfl).app hK1
  generalize H1 = H at hP hS ⊢
  have hP : va_P (dC, dI) vwCl [(h1, .inl (y0, 1, .inr (.inl (fun _ => 0)))), (h0, .inr (11, [.ref h2, .ref h3, .ref h4, .ref h5, .ref h6, .int 0, .int 0]))] H := hP
  have hD : va_D A [(h1, .inl (y0, 1, .inr (.inl (fun _ => 0)))), (h0, .inr (11, [.ref h2, .ref h3, .ref h4, .ref h5, .ref h6, .int 0, .int 0]))] := hD
  have hK : va_K (dC, dI) vwCl [(y0, .long)] s := hK
  subst er1
  refine lv_if_eq (tgt := 15) hx hb dL_poke_8 (by decide) (fun _ => ?_) (fun c => absurd (by decide) c)
  refine lv_lconst (v := 0) hx hb dL_poke_15 (by decide) ?_
  refine va_last hx hb hK hP hD hS 0 0 rfl rfl (iv_in (by decide : iv 0 0 0) (by decide) (by decide) : vp_in 0 1) dL_poke_16 (fun H locs hP hD hS => ?_)
  have hP : va_P (dC, dI) vwCl [(h1, .inl (y0, 1, .inr (.inl (vp_updL (fun _ => 0) (0 : Int32).toNatClampNeg 0)))), (h0, .inr (11, [.ref h2, .ref h3, .ref h4, .ref h5, .ref h6, .int 0, .int 0]))] H := hP
  have hD : va_D A [(h1, .inl (y0, 1, .inr (.inl (vp_updL (fun _ => 0) (0 : Int32).toNatClampNeg 0)))), (h0, .inr (11, [.ref h2, .ref h3, .ref h4, .ref h5, .ref h6, .int 0, .int 0]))] := hD
  obtain ⟨f3, ef3⟩ : ∃ z, z = vp_updL (fun _ => 0) (0 : Int32).toNatClampNeg 0 := ⟨_, rfl⟩
  rw [← ef3] at hP hD
  refine lv_goto (tgt := 24) hx hb dL_poke_17 (by decide) ?_
  refine lv_iconst (v := 0) hx hb dL_poke_24 (by decide) ?_
  have hP9 := hP.sub (ws' := [(h0, .inr (11, [.ref h2, .ref h3, .ref h4, .ref h5, .ref h6, .int 0, .int 0])), (h1, .inl (y0, 1, .inr (.inl f3)))]) [1, 0] rfl
  have hD9 := hD.sub (ws' := [(h0, .inr (11, [.ref h2, .ref h3, .ref h4, .ref h5, .ref h6, .int 0, .int 0])), (h1, .inl (y0, 1, .inr (.inl f3)))]) [1, 0] (by decide) rfl
  have hK9 := hK.sub (tys' := [(y0, .long)]) [0] rfl
  exact W.iret (v := 0) hx hb hr (fun t ht hW => ⟨⟨0, f3, rfl, ⟨rfl, (kuL ef3 (by decide)), trivial⟩, by rw [ht]; exact hP9, va_K.moved hW.alike hK9, hD9⟩, hS.F ht⟩) hS.2.2 dL_poke_25
set_option maxHeartbeats 4000000 in
set_option maxRecDepth 100000 in
theorem cX9_writeWord_1 (l : Launch) (dC : Nat → ClassId) (dI : Nat → Nat → Nat) (h0 h1 h2 : Nat) (sz : Nat) (x0 x1 : Int32) (ix0 : iv x0 0 303) : Met l yX9_writeWord (Cond.code yX9_writeWord cX9_writeWord 3 none :: lw_G) ({ frames := 0, cells := 0, slots := 0, locals := 0 }) (va_Pc [.ref h0, .int x0, .int x1] (fun U => U.heap.size = sz ∧ va_P (dC, dI) vwCl [(h0, .inr (9, [.ref h1, .ref h2, .int 0, .int 0, .int 0, .int 0]))] U.heap ∧ va_K (dC, dI) vwCl [] U ∧ va_D (fun _ => True) [(h0, .inr (9, [.ref h1, .ref h2, .int 0, .int 0, .int 0, .int 0]))])) (va_Qv (fun (u : Unit) => True) (fun (u : Unit) (t : State) => va_P (dC, dI) vwCl [(h0, .inr (9, [.ref h1, .ref h2, .int 0, .int 0, .int 0, .int 0]))] t.heap ∧ va_K (dC, dI) vwCl [] t ∧ va_D (va_A [(h0, .inr (9, [.ref h1, .ref h2, .int 0, .int 0, .int 0, .int 0]))] sz) [(h0, .inr (9, [.ref h1, .ref h2, .int 0, .int 0, .int 0, .int 0]))]) (va_A [(h0, .inr (9, [.ref h1, .ref h2, .int 0, .int 0, .int 0, .int 0]))] sz)) 0 0 (va_A [(h0, .inr (9, [.ref h1, .ref h2, .int 0, .int 0, .int 0, .int 0]))] sz) := by
  refine Met.ofW (cc := cX9_writeWord) (maxL := 3) (ret := none) (by decide) rfl ?_
  intro p e s m args below meth c s₁ B hml hv
  obtain ⟨rfl, hsz, hP, hK, hD0⟩ := hv
  have hx := B.exec
  have hb := B.bytes
  have hr := B.returns
  have hts0 := atoms_spec (ws := Cond.code yX9_writeWord cX9_writeWord 3 none :: lw_G) B.pre
  have hG : ∀ w ∈ lw_G, w.before _ s = true := fun w h => hts0 w (List.mem_cons_of_mem _ h)
  have hown : s.vm.findClass RX9 = some m.cls := findClass_of_methodNamed B.named
  have hlocks := B.notSynchronized
  subst hsz
  have hD := hD0.self (sz := s.heap.size)
  generalize hAe : va_A [(h0, .inr (9, [.ref h1, .ref h2, .int 0, .int 0, .int 0, .int 0]))] s.heap.size = A at hD ⊢
  have hA : ∀ q : Nat, s.heap.size ≤ q → A q := fun q h => by rw [← hAe]; exact Or.inr h
  have hS : va_S A s.heap s.heap [] := va_S.rf
  have hP : va_P (dC, dI) vwCl [(h0, .inr (9, [.ref h1, .ref h2, .int 0, .int 0, .int 0, .int 0]))] s.heap := hP
  have hl := lv_entry ([.ref h0, .int x0, .int x1]) (n := 3) (Nat.le_of_ble_eq_true rfl)
  rw [lg_entry_eq]
  generalize (lg_sl ([.ref h0, .int x0, .int x1]) ++ List.replicate (3 - (lg_sl ([.ref h0, .int x0, .int x1])).length) Slot.unset).toArray = ls at hl ⊢
  have hl : lv_has ls 3 [(0, .ref h0), (1, .int x0), (2, .int x1)] := hl
  refine lv_iload_n hx hb dX9_writeWord_0 rfl (lv_at hl 1 rfl) ?_
  refine lv_sipush (v := 352) hx hb dX9_writeWord_1 (by decide) ?_
  refine lv_icmp_ne (tgt := 28) hx hb dX9_writeWord_4 (by decide) (fun _ => ?_) (fun c => absurd c (iv_ne ix0 (by decide : iv 352 352 352) (by decide)))
  refine lv_iload_n hx hb dX9_writeWord_28 rfl (lv_at hl 1 rfl) ?_
  refine lv_sipush (v := 354) hx hb dX9_writeWord_29 (by decide) ?_
  refine lv_icmp_lt (tgt := 61) hx hb dX9_writeWord_32 (by decide) (fun _ => ?_) (fun c => absurd (iv_lt ix0 (by decide : iv 354 354 354) (by decide)) c)
  refine lv_iload_n hx hb dX9_writeWord_61 rfl (lv_at hl 1 rfl) ?_
  refine lv_sipush (v := 368) hx hb dX9_writeWord_62 (by decide) ?_
  refine lv_icmp_ne (tgt := 76) hx hb dX9_writeWord_65 (by decide) (fun _ => ?_) (fun c => absurd c (iv_ne ix0 (by decide : iv 368 368 368) (by decide)))
  refine lv_iload_n hx hb dX9_writeWord_76 rfl (lv_at hl 1 rfl) ?_
  refine lv_sipush (v := 370) hx hb dX9_writeWord_77 (by decide) ?_
  refine lv_icmp_lt (tgt := 103) hx hb dX9_writeWord_80 (by decide) (fun _ => ?_) (fun c => absurd (iv_lt ix0 (by decide : iv 370 370 370) (by decide)) c)
  have hP9 := hP.sub (ws' := [(h0, .inr (9, [.ref h1, .ref h2, .int 0, .int 0, .int 0, .int 0]))]) [0] rfl
  have hD9 := hD.sub (ws' := [(h0, .inr (9, [.ref h1, .ref h2, .int 0, .int 0, .int 0, .int 0]))]) [0] (by decide) rfl
  have hK9 := hK.sub (tys' := []) [] rfl
  exact W.vret hx hb hr (fun t ht hW => ⟨⟨(), rfl, trivial, by rw [ht]; exact hP9, va_K.moved hW.alike hK9, hD9⟩, hS.F ht⟩) hS.2.2 dX9_writeWord_103
set_option maxHeartbeats 4000000 in
set_option maxRecDepth 100000 in
theorem cX9_startAnew_2 (l : Launch) (dC : Nat → ClassId) (dI : Nat → Nat → Nat) (h0 h1 h2 : Nat) (sz : Nat) (x0 : Int32) (ix0 : iv x0 0 65531) : Met l yX9_startAnew (Cond.code yX9_startAnew cX9_startAnew 1 none :: lw_G) ({ frames := 0, cells := 0, slots := 0, locals := 0 }) (va_Pc [.ref h0] (fun U => U.heap.size = sz ∧ va_P (dC, dI) vwCl [(h0, .inr (9, [.ref h1, .ref h2, .int x0, .int 0, .int 0, .int 0]))] U.heap ∧ va_K (dC, dI) vwCl [] U ∧ va_D (fun _ => True) [(h0, .inr (9, [.ref h1, .ref h2, .int x0, .int 0, .int 0, .int 0]))])) (va_Qv (fun (u : Unit) => True) (fun (u : Unit) (t : State) => va_P (dC, dI) vwCl [(h0, .inr (9, [.ref h1, .ref h2, .int x0, .int 0, .int 0, .int 0]))] t.heap ∧ va_K (dC, dI) vwCl [] t ∧ va_D (va_A [(h0, .inr (9, [.ref h1, .ref h2, .int x0, .int 0, .int 0, .int 0]))] sz) [(h0, .inr (9, [.ref h1, .ref h2, .int x0, .int 0, .int 0, .int 0]))]) (va_A [(h0, .inr (9, [.ref h1, .ref h2, .int x0, .int 0, .int 0, .int 0]))] sz)) 0 0 (va_A [(h0, .inr (9, [.ref h1, .ref h2, .int x0, .int 0, .int 0, .int 0]))] sz) := by
  refine Met.ofW (cc := cX9_startAnew) (maxL := 1) (ret := none) (by decide) rfl ?_
  intro p e s m args below meth c s₁ B hml hv
  obtain ⟨rfl, hsz, hP, hK, hD0⟩ := hv
  have hx := B.exec
  have hb := B.bytes
  have hr := B.returns
  have hts0 := atoms_spec (ws := Cond.code yX9_startAnew cX9_startAnew 1 none :: lw_G) B.pre
  have hG : ∀ w ∈ lw_G, w.before _ s = true := fun w h => hts0 w (List.mem_cons_of_mem _ h)
  have hown : s.vm.findClass RX9 = some m.cls := findClass_of_methodNamed B.named
  have hlocks := B.notSynchronized
  subst hsz
  have hD := hD0.self (sz := s.heap.size)
  generalize hAe : va_A [(h0, .inr (9, [.ref h1, .ref h2, .int x0, .int 0, .int 0, .int 0]))] s.heap.size = A at hD ⊢
  have hA : ∀ q : Nat, s.heap.size ≤ q → A q := fun q h => by rw [← hAe]; exact Or.inr h
  have hS : va_S A s.heap s.heap [] := va_S.rf
  have hP : va_P (dC, dI) vwCl [(h0, .inr (9, [.ref h1, .ref h2, .int x0, .int 0, .int 0, .int 0]))] s.heap := hP
  have hl := lv_entry ([.ref h0]) (n := 1) (Nat.le_of_ble_eq_true rfl)
  rw [lg_entry_eq]
  generalize (lg_sl ([.ref h0]) ++ List.replicate (1 - (lg_sl ([.ref h0])).length) Slot.unset).toArray = ls at hl ⊢
  have hl : lv_has ls 1 [(0, .ref h0)] := hl
  refine lv_aload_n hx hb dX9_startAnew_0 rfl (lv_at hl 0 rfl) ?_
  refine lv_iconst (v := 0) hx hb dX9_startAnew_1 (by decide) ?_
  refine va_put (D := (dC, dI)) (ci := 9) (v := .int 0) (ty := .int) (C := RX9) (T := TX9) (N := 6) hx hb hG inGX9 tyX9 tyX9_ok nmX9 hown hK hP hD hS 0 rfl rfl 3 (by decide) (hG _ wd_98) (fun _ h9 => h9) rfl (by decide +kernel) rfl rfl (Nat.le_of_ble_eq_true rfl) dX9_startAnew_2 (fun H locs hP hD hS => ?_)
  have hP : va_P (dC, dI) vwCl [(h0, .inr (9, [.ref h1, .ref h2, .int x0, .int 0, .int 0, .int 0]))] H := hP
  have hD : va_D A [(h0, .inr (9, [.ref h1, .ref h2, .int x0, .int 0, .int 0, .int 0]))] := hD
  refine lv_aload_n hx hb dX9_startAnew_5 rfl (lv_at hl 0 rfl) ?_
  refine lv_iconst (v := 0) hx hb dX9_startAnew_6 (by decide) ?_
  refine va_put (D := (dC, dI)) (ci := 9) (v := .int 0) (ty := .int) (C := RX9) (T := TX9) (N := 6) hx hb hG inGX9 tyX9 tyX9_ok nmX9 hown hK hP hD hS 0 rfl rfl 4 (by decide) (hG _ wd_99) (fun _ h9 => h9) rfl (by decide +kernel) rfl rfl (Nat.le_of_ble_eq_true rfl) dX9_startAnew_7 (fun H locs hP hD hS => ?_)
  have hP : va_P (dC, dI) vwCl [(h0, .inr (9, [.ref h1, .ref h2, .int x0, .int 0, .int 0, .int 0]))] H := hP
  have hD : va_D A [(h0, .inr (9, [.ref h1, .ref h2, .int x0, .int 0, .int 0, .int 0]))] := hD
  refine lv_aload_n hx hb dX9_startAnew_10 rfl (lv_at hl 0 rfl) ?_
  refine lv_iconst (v := 0) hx hb dX9_startAnew_11 (by decide) ?_
  refine va_put (D := (dC, dI)) (ci := 9) (v := .int 0) (ty := .boolean) (C := RX9) (T := TX9) (N := 6) hx hb hG inGX9 tyX9 tyX9_ok nmX9 hown hK hP hD hS 0 rfl rfl 5 (by decide) (hG _ wd_100) (fun _ h9 => h9) rfl (by decide +kernel) rfl rfl (Nat.le_of_ble_eq_true rfl) dX9_startAnew_12 (fun H locs hP hD hS => ?_)
  have hP : va_P (dC, dI) vwCl [(h0, .inr (9, [.ref h1, .ref h2, .int x0, .int 0, .int 0, .int 0]))] H := hP
  have hD : va_D A [(h0, .inr (9, [.ref h1, .ref h2, .int x0, .int 0, .int 0, .int 0]))] := hD
  have hP9 := hP.sub (ws' := [(h0, .inr (9, [.ref h1, .ref h2, .int x0, .int 0, .int 0, .int 0]))]) [0] rfl
  have hD9 := hD.sub (ws' := [(h0, .inr (9, [.ref h1, .ref h2, .int x0, .int 0, .int 0, .int 0]))]) [0] (by decide) rfl
  have hK9 := hK.sub (tys' := []) [] rfl
  exact W.vret hx hb hr (fun t ht hW => ⟨⟨(), rfl, trivial, by rw [ht]; exact hP9, va_K.moved hW.alike hK9, hD9⟩, hS.F ht⟩) hS.2.2 dX9_startAnew_15
set_option maxHeartbeats 4000000 in
set_option maxRecDepth 100000 in
theorem cX9_writeWord_2 (l : Launch) (dC : Nat → ClassId) (dI : Nat → Nat → Nat) (h0 h1 h2 : Nat) (y0 y1 : ClassId) (sz : Nat) (x0 x1 : Int32) (ix0 : iv x0 319 511) : Met l yX9_writeWord (Cond.code yX9_writeWord cX9_writeWord 3 none :: lw_G) ({ frames := 1, cells := 0, slots := 0, locals := 20 }) (va_Pc [.ref h0, .int x0, .int x1] (fun U => U.heap.size = sz ∧ va_P (dC, dI) vwCl [(h0, .inr (9, [.ref h1, .ref h2, .int 0, .int 0, .int 0, .int 0])), (h2, .inl (y0, 3, .inl (fun _ => 0))), (h1, .inl (y1, 3, .inl (fun _ => 0)))] U.heap ∧ va_K (dC, dI) vwCl [(y0, .int), (y1, .int)] U ∧ va_D (fun _ => True) [(h0, .inr (9, [.ref h1, .ref h2, .int 0, .int 0, .int 0, .int 0])), (h2, .inl (y0, 3, .inl (fun _ => 0))), (h1, .inl (y1, 3, .inl (fun _ => 0)))])) (va_Qv (fun (u : Int32 × Int32 × (Nat → Int32) × (Nat → Int32)) => iv u.1 0 65531 ∧ (∀ j, iv (u.2.2.2 j) 0 17) ∧ True) (fun (u : Int32 × Int32 × (Nat → Int32) × (Nat → Int32)) (t : State) => va_P (dC, dI) vwCl [(h0, .inr (9, [.ref h1, .ref h2, .int u.1, .int u.2.1, .int 0, .int 0])), (h2, .inl (y0, 3, .inl u.2.2.1)), (h1, .inl (y1, 3, .inl u.2.2.2))] t.heap ∧ va_K (dC, dI) vwCl [(y0, .int), (y1, .int)] t ∧ va_D (va_A [(h0, .inr (9, [.ref h1, .ref h2, .int 0, .int 0, .int 0, .int 0])), (h2, .inl (y0, 3, .inl (fun _ => 0))), (h1, .inl (y1, 3, .inl (fun _ => 0)))] sz) [(h0, .inr (9, [.ref h1, .ref h2, .int u.1, .int u.2.1, .int 0, .int 0])), (h2, .inl (y0, 3, .inl u.2.2.1)), (h1, .inl (y1, 3, .inl u.2.2.2))]) (va_A [(h0, .inr (9, [.ref h1, .ref h2, .int 0, .int 0, .int 0, .int 0])), (h2, .inl (y0, 3, .inl (fun _ => 0))), (h1, .inl (y1, 3, .inl (fun _ => 0)))] sz)) 0 0 (va_A [(h0, .inr (9, [.ref h1, .ref h2, .int 0, .int 0, .int 0, .int 0])), (h2, .inl (y0, 3, .inl (fun _ => 0))), (h1, .inl (y1, 3, .inl (fun _ => 0)))] sz) := by
  refine Met.ofW (cc := cX9_writeWord) (maxL := 3) (ret := none) (by decide) rfl ?_
  intro p e s m args below meth c s₁ B hml hv
  obtain ⟨rfl, hsz, hP, hK, hD0⟩ := hv
  have hx := B.exec
  have hb := B.bytes
  have hr := B.returns
  have hts0 := atoms_spec (ws := Cond.code yX9_writeWord cX9_writeWord 3 none :: lw_G) B.pre
  have hG : ∀ w ∈ lw_G, w.before _ s = true := fun w h => hts0 w (List.mem_cons_of_mem _ h)
  have hown : s.vm.findClass RX9 = some m.cls := findClass_of_methodNamed B.named
  have hlocks := B.notSynchronized
  subst hsz
  have hD := hD0.self (sz := s.heap.size)
  generalize hAe : va_A [(h0, .inr (9, [.ref h1, .ref h2, .int 0, .int 0, .int 0, .int 0])), (h2, .inl (y0, 3, .inl (fun _ => 0))), (h1, .inl (y1, 3, .inl (fun _ => 0)))] s.heap.size = A at hD ⊢
  have hA : ∀ q : Nat, s.heap.size ≤ q → A q := fun q h => by rw [← hAe]; exact Or.inr h
  have hS : va_S A s.heap s.heap [] := va_S.rf
  have hP : va_P (dC, dI) vwCl [(h0, .inr (9, [.ref h1, .ref h2, .int 0, .int 0, .int 0, .int 0])), (h2, .inl (y0, 3, .inl (fun _ => 0))), (h1, .inl (y1, 3, .inl (fun _ => 0)))] s.heap := hP
  have hl := lv_entry ([.ref h0, .int x0, .int x1]) (n := 3) (Nat.le_of_ble_eq_true rfl)
  rw [lg_entry_eq]
  generalize (lg_sl ([.ref h0, .int x0, .int x1]) ++ List.replicate (3 - (lg_sl ([.ref h0, .int x0, .int x1])).length) Slot.unset).toArray = ls at hl ⊢
  have hl : lv_has ls 3 [(0, .ref h0), (1, .int x0), (2, .int x1)] := hl
  refine lv_iload_n hx hb dX9_writeWord_0 rfl (lv_at hl 1 rfl) ?_
  refine lv_sipush (v := 352) hx hb dX9_writeWord_1 (by decide) ?_
  refine lv_icmp_ne (tgt := 28) hx hb dX9_writeWord_4 (by decide) (fun c1 => ?_) (fun c1 => ?_)
  · skip
    refine lv_iload_n hx hb dX9_writeWord_28 rfl (lv_at hl 1 rfl) ?_
    refine lv_sipush (v := 354) hx hb dX9_writeWord_29 (by decide) ?_
    refine lv_icmp_lt (tgt := 61) hx hb dX9_writeWord_32 (by decide) (fun c2 => ?_) (fun c2 => ?_)
    · skip
      have j3 : iv x0 319 353 := iv_ltL ix0 (by decide : iv 354 354 354) c2 (by decide)
      refine lv_iload_n hx hb dX9_writeWord_61 rfl (lv_at hl 1 rfl) ?_
      refine lv_sipush (v := 368) hx hb dX9_writeWord_62 (by decide) ?_
      refine lv_icmp_ne (tgt := 76) hx hb dX9_writeWord_65 (by decide) (fun _ => ?_) (fun c => absurd c (iv_ne j3 (by decide : iv 368 368 368) (by decide)))
      refine lv_iload_n hx hb dX9_writeWord_76 rfl (lv_at hl 1 rfl) ?_
      refine lv_sipush (v := 370) hx hb dX9_writeWord_77 (by decide) ?_
      refine lv_icmp_lt (tgt := 103) hx hb dX9_writeWord_80 (by decide) (fun _ => ?_) (fun c => absurd (iv_lt j3 (by decide : iv 370 370 370) (by decide)) c)
      have hP9 := hP.sub (ws' := [(h0, .inr (9, [.ref h1, .ref h2, .int 0, .int 0, .int 0, .int 0])), (h2, .inl (y0, 3, .inl (fun _ => 0))), (h1, .inl (y1, 3, .inl (fun _ => 0)))]) [0, 1, 2] rfl
      have hD9 := hD.sub (ws' := [(h0, .inr (9, [.ref h1, .ref h2, .int 0, .int 0, .int 0, .int 0])), (h2, .inl (y0, 3, .inl (fun _ => 0))), (h1, .inl (y1, 3, .inl (fun _ => 0)))]) [0, 1, 2] (by decide) rfl
      have hK9 := hK.sub (tys' := [(y0, .int), (y1, .int)]) [0, 1] rfl
      exact W.vret hx hb hr (fun t ht hW => ⟨⟨(0, 0, (fun _ => 0), (fun _ => 0)), rfl, ⟨iv_w (by decide : iv 0 0 0) (by decide) (by decide), (fun _ => (by decide : iv 0 0 17)), trivial⟩, by rw [ht]; exact hP9, va_K.moved hW.alike hK9, hD9⟩, hS.F ht⟩) hS.2.2 dX9_writeWord_103
    · skip
      have j4 : iv x0 354 511 := iv_nltL ix0 (by decide : iv 354 354 354) c2 (by decide)
      refine lv_iload_n hx hb dX9_writeWord_35 rfl (lv_at hl 1 rfl) ?_
      refine lv_sipush (v := 358) hx hb dX9_writeWord_36 (by decide) ?_
      refine lv_icmp_gt (tgt := 61) hx hb dX9_writeWord_39 (by decide) (fun c5 => ?_) (fun c5 => ?_)
      · skip
        have j6 : iv x0 359 511 := iv_ltR (by decide : iv 358 358 358) j4 c5 (by decide)
        refine lv_iload_n hx hb dX9_writeWord_61 rfl (lv_at hl 1 rfl) ?_
        refine lv_sipush (v := 368) hx hb dX9_writeWord_62 (by decide) ?_
        refine lv_icmp_ne (tgt := 76) hx hb dX9_writeWord_65 (by decide) (fun c7 => ?_) (fun c7 => ?_)
        · skip
          refine lv_iload_n hx hb dX9_writeWord_76 rfl (lv_at hl 1 rfl) ?_
          refine lv_sipush (v := 370) hx hb dX9_writeWord_77 (by decide) ?_
          refine lv_icmp_lt (tgt := 103) hx hb dX9_writeWord_80 (by decide) (fun c8 => ?_) (fun c8 => ?_)
          · skip
            have j9 : iv x0 359 369 := iv_ltL j6 (by decide : iv 370 370 370) c8 (by decide)
            have hP9 := hP.sub (ws' := [(h0, .inr (9, [.ref h1, .ref h2, .int 0, .int 0, .int 0, .int 0])), (h2, .inl (y0, 3, .inl (fun _ => 0))), (h1, .inl (y1, 3, .inl (fun _ => 0)))]) [0, 1, 2] rfl
            have hD9 := hD.sub (ws' := [(h0, .inr (9, [.ref h1, .ref h2, .int 0, .int 0, .int 0, .int 0])), (h2, .inl (y0, 3, .inl (fun _ => 0))), (h1, .inl (y1, 3, .inl (fun _ => 0)))]) [0, 1, 2] (by decide) rfl
            have hK9 := hK.sub (tys' := [(y0, .int), (y1, .int)]) [0, 1] rfl
            exact W.vret hx hb hr (fun t ht hW => ⟨⟨(0, 0, (fun _ => 0), (fun _ => 0)), rfl, ⟨iv_w (by decide : iv 0 0 0) (by decide) (by decide), (fun _ => (by decide : iv 0 0 17)), trivial⟩, by rw [ht]; exact hP9, va_K.moved hW.alike hK9, hD9⟩, hS.F ht⟩) hS.2.2 dX9_writeWord_103
          · skip
            have j10 : iv x0 370 511 := iv_nltL j6 (by decide : iv 370 370 370) c8 (by decide)
            refine lv_iload_n hx hb dX9_writeWord_83 rfl (lv_at hl 1 rfl) ?_
            refine lv_sipush (v := 374) hx hb dX9_writeWord_84 (by decide) ?_
            refine lv_icmp_gt (tgt := 103) hx hb dX9_writeWord_87 (by decide) (fun c11 => ?_) (fun c11 => ?_)
            · skip
              have j12 : iv x0 375 511 := iv_ltR (by decide : iv 374 374 374) j10 c11 (by decide)
              have hP9 := hP.sub (ws' := [(h0, .inr (9, [.ref h1, .ref h2, .int 0, .int 0, .int 0, .int 0])), (h2, .inl (y0, 3, .inl (fun _ => 0))), (h1, .inl (y1, 3, .inl (fun _ => 0)))]) [0, 1, 2] rfl
              have hD9 := hD.sub (ws' := [(h0, .inr (9, [.ref h1, .ref h2, .int 0, .int 0, .int 0, .int 0])), (h2, .inl (y0, 3, .inl (fun _ => 0))), (h1, .inl (y1, 3, .inl (fun _ => 0)))]) [0, 1, 2] (by decide) rfl
              have hK9 := hK.sub (tys' := [(y0, .int), (y1, .int)]) [0, 1] rfl
              exact W.vret hx hb hr (fun t ht hW => ⟨⟨(0, 0, (fun _ => 0), (fun _ => 0)), rfl, ⟨iv_w (by decide : iv 0 0 0) (by decide) (by decide), (fun _ => (by decide : iv 0 0 17)), trivial⟩, by rw [ht]; exact hP9, va_K.moved hW.alike hK9, hD9⟩, hS.F ht⟩) hS.2.2 dX9_writeWord_103
            · skip
              have j13 : iv x0 370 374 := iv_nltR (by decide : iv 374 374 374) j10 c11 (by decide)
              refine lv_aload_n hx hb dX9_writeWord_90 rfl (lv_at hl 0 rfl) ?_
              refine va_get (D := (dC, dI)) (ci := 9) (v := .ref h2) (C := RX9) (T := TX9) (N := 6) hx hb hG inGX9 hown hK hP 0 rfl rfl 1 (by decide) (hG _ wd_96) (fun _ h9 => h9) rfl dX9_writeWord_91 ?_
              refine lv_iload_n hx hb dX9_writeWord_94 rfl (lv_at hl 1 rfl) ?_
              refine lv_sipush (v := 370) hx hb dX9_writeWord_95 (by decide) ?_
              refine lv_isub hx hb dX9_writeWord_98 ?_
              refine lv_topi (fun v14 ev14 => ?_)
              have iv14 : iv v14 0 4 := iv_eq ev14 (iv_sub j13 (by decide : iv 370 370 370) (by decide) (by decide))
              refine lv_iconst (v := 1) hx hb dX9_writeWord_99 (by decide) ?_
              refine lv_ishr hx hb dX9_writeWord_100 ?_
              refine lv_topi (fun v15 ev15 => ?_)
              have iv15 : iv v15 0 2 := iv_eq ev15 (iv_shr 1 (by decide) iv14 (by decide) (by decide))
              refine lv_iload_n hx hb dX9_writeWord_101 rfl (lv_at hl 2 rfl) ?_
              refine va_iast hx hb hK hP hD hS 1 0 rfl rfl (iv_in iv15 (by decide) (by decide) : vp_in v15 3) dX9_writeWord_102 (fun H locs hP hD hS => ?_)
              have hP : va_P (dC, dI) vwCl [(h0, .inr (9, [.ref h1, .ref h2, .int 0, .int 0, .int 0, .int 0])), (h2, .inl (y0, 3, .inl (upd (fun _ => 0) v15.toNatClampNeg x1))), (h1, .inl (y1, 3, .inl (fun _ => 0)))] H := hP
              have hD : va_D A [(h0, .inr (9, [.ref h1, .ref h2, .int 0, .int 0, .int 0, .int 0])), (h2, .inl (y0, 3, .inl (upd (fun _ => 0) v15.toNatClampNeg x1))), (h1, .inl (y1, 3, .inl (fun _ => 0)))] := hD
              obtain ⟨f16, ef16⟩ : ∃ z, z = upd (fun _ => 0) v15.toNatClampNeg x1 := ⟨_, rfl⟩
              rw [← ef16] at hP hD
              have hP9 := hP.sub (ws' := [(h0, .inr (9, [.ref h1, .ref h2, .int 0, .int 0, .int 0, .int 0])), (h2, .inl (y0, 3, .inl f16)), (h1, .inl (y1, 3, .inl (fun _ => 0)))]) [0, 1, 2] rfl
              have hD9 := hD.sub (ws' := [(h0, .inr (9, [.ref h1, .ref h2, .int 0, .int 0, .int 0, .int 0])), (h2, .inl (y0, 3, .inl f16)), (h1, .inl (y1, 3, .inl (fun _ => 0)))]) [0, 1, 2] (by decide) rfl
              have hK9 := hK.sub (tys' := [(y0, .int), (y1, .int)]) [0, 1] rfl
              exact W.vret hx hb hr (fun t ht hW => ⟨⟨(0, 0, f16, (fun _ => 0)), rfl, ⟨iv_w (by decide : iv 0 0 0) (by decide) (by decide), (fun _ => (by decide : iv 0 0 17)), trivial⟩, by rw [ht]; exact hP9, va_K.moved hW.alike hK9, hD9⟩, hS.F ht⟩) hS.2.2 dX9_writeWord_103
        · skip
          subst c7
          refine lv_aload_n hx hb dX9_writeWord_68 rfl (lv_at hl 0 rfl) ?_
          refine lv_iload_n hx hb dX9_writeWord_69 rfl (lv_at hl 2 rfl) ?_
          refine va_put (D := (dC, dI)) (ci := 9) (v := .int x1) (ty := .int) (C := RX9) (T := TX9) (N := 6) hx hb hG inGX9 tyX9 tyX9_ok nmX9 hown hK hP hD hS 0 rfl rfl 3 (by decide) (hG _ wd_98) (fun _ h9 => h9) rfl (by decide +kernel) rfl rfl (Nat.le_of_ble_eq_true rfl) dX9_writeWord_70 (fun H locs hP hD hS => ?_)
          have hP : va_P (dC, dI) vwCl [(h0, .inr (9, [.ref h1, .ref h2, .int 0, .int x1, .int 0, .int 0])), (h2, .inl (y0, 3, .inl (fun _ => 0))), (h1, .inl (y1, 3, .inl (fun _ => 0)))] H := hP
          have hD : va_D A [(h0, .inr (9, [.ref h1, .ref h2, .int 0, .int x1, .int 0, .int 0])), (h2, .inl (y0, 3, .inl (fun _ => 0))), (h1, .inl (y1, 3, .inl (fun _ => 0)))] := hD
          refine lv_goto (tgt := 103) hx hb dX9_writeWord_73 (by decide) ?_
          have hP9 := hP.sub (ws' := [(h0, .inr (9, [.ref h1, .ref h2, .int 0, .int x1, .int 0, .int 0])), (h2, .inl (y0, 3, .inl (fun _ => 0))), (h1, .inl (y1, 3, .inl (fun _ => 0)))]) [0, 1, 2] rfl
          have hD9 := hD.sub (ws' := [(h0, .inr (9, [.ref h1, .ref h2, .int 0, .int x1, .int 0, .int 0])), (h2, .inl (y0, 3, .inl (fun _ => 0))), (h1, .inl (y1, 3, .inl (fun _ => 0)))]) [0, 1, 2] (by decide) rfl
          have hK9 := hK.sub (tys' := [(y0, .int), (y1, .int)]) [0, 1] rfl
          exact W.vret hx hb hr (fun t ht hW => ⟨⟨(0, x1, (fun _ => 0), (fun _ => 0)), rfl, ⟨iv_w (by decide : iv 0 0 0) (by decide) (by decide), (fun _ => (by decide : iv 0 0 17)), trivial⟩, by rw [ht]; exact hP9, va_K.moved hW.alike hK9, hD9⟩, hS.F ht⟩) hS.2.2 dX9_writeWord_103
      · skip
        have j17 : iv x0 354 358 := iv_nltR (by decide : iv 358 358 358) j4 c5 (by decide)
        refine lv_aload_n hx hb dX9_writeWord_42 rfl (lv_at hl 0 rfl) ?_
        refine va_get (D := (dC, dI)) (ci := 9) (v := .ref h1) (C := RX9) (T := TX9) (N := 6) hx hb hG inGX9 hown hK hP 0 rfl rfl 0 (by decide) (hG _ wd_95) (fun _ h9 => h9) rfl dX9_writeWord_43 ?_
        refine lv_iload_n hx hb dX9_writeWord_46 rfl (lv_at hl 1 rfl) ?_
        refine lv_sipush (v := 354) hx hb dX9_writeWord_47 (by decide) ?_
        refine lv_isub hx hb dX9_writeWord_50 ?_
        refine lv_topi (fun v18 ev18 => ?_)
        have iv18 : iv v18 0 4 := iv_eq ev18 (iv_sub j17 (by decide : iv 354 354 354) (by decide) (by decide))
        refine lv_iconst (v := 1) hx hb dX9_writeWord_51 (by decide) ?_
        refine lv_ishr hx hb dX9_writeWord_52 ?_
        refine lv_topi (fun v19 ev19 => ?_)
        have iv19 : iv v19 0 2 := iv_eq ev19 (iv_shr 1 (by decide) iv18 (by decide) (by decide))
        refine lv_iload_n hx hb dX9_writeWord_53 rfl (lv_at hl 2 rfl) ?_
        refine lv_bipush (v := 17) hx hb dX9_writeWord_54 (by decide) ?_
        refine lv_iand hx hb dX9_writeWord_56 ?_
        refine lv_topi (fun v20 ev20 => ?_)
        have iv20 : iv v20 0 17 := iv_eq ev20 (iv_and (x := x1) (iv_w (by decide : iv 17 17 17) (by decide) (by decide) : iv 17 0 17))
        refine va_iast hx hb hK hP hD hS 2 1 rfl rfl (iv_in iv19 (by decide) (by decide) : vp_in v19 3) dX9_writeWord_57 (fun H locs hP hD hS => ?_)
        have hP : va_P (dC, dI) vwCl [(h0, .inr (9, [.ref h1, .ref h2, .int 0, .int 0, .int 0, .int 0])), (h2, .inl (y0, 3, .inl (fun _ => 0))), (h1, .inl (y1, 3, .inl (upd (fun _ => 0) v19.toNatClampNeg v20)))] H := hP
        have hD : va_D A [(h0, .inr (9, [.ref h1, .ref h2, .int 0, .int 0, .int 0, .int 0])), (h2, .inl (y0, 3, .inl (fun _ => 0))), (h1, .inl (y1, 3, .inl (upd (fun _ => 0) v19.toNatClampNeg v20)))] := hD
        obtain ⟨f21, ef21⟩ : ∃ z, z = upd (fun _ => 0) v19.toNatClampNeg v20 := ⟨_, rfl⟩
        rw [← ef21] at hP hD
        have if21 : ∀ j, iv (f21 j) 0 17 := by rw [ef21]; exact iv_upd (fun _ => (by decide : iv 0 0 0)) iv20 (by decide) (by decide) (by decide) (by decide)
        refine lv_goto (tgt := 103) hx hb dX9_writeWord_58 (by decide) ?_
        have hP9 := hP.sub (ws' := [(h0, .inr (9, [.ref h1, .ref h2, .int 0, .int 0, .int 0, .int 0])), (h2, .inl (y0, 3, .inl (fun _ => 0))), (h1, .inl (y1, 3, .inl f21))]) [0, 1, 2] rfl
        have hD9 := hD.sub (ws' := [(h0, .inr (9, [.ref h1, .ref h2, .int 0, .int 0, .int 0, .int 0])), (h2, .inl (y0, 3, .inl (fun _ => 0))), (h1, .inl (y1, 3, .inl f21))]) [0, 1, 2] (by decide) rfl
        have hK9 := hK.sub (tys' := [(y0, .int), (y1, .int)]) [0, 1] rfl
        exact W.vret hx hb hr (fun t ht hW => ⟨⟨(0, 0, (fun _ => 0), f21), rfl, ⟨iv_w (by decide : iv 0 0 0) (by decide) (by decide), (fun j => iv_w (if21 j) (by decide) (by decide)), trivial⟩, by rw [ht]; exact hP9, va_K.moved hW.alike hK9, hD9⟩, hS.F ht⟩) hS.2.2 dX9_writeWord_103
  · skip
    subst c1
    refine lv_aload_n hx hb dX9_writeWord_7 rfl (lv_at hl 0 rfl) ?_
    refine lv_iload_n hx hb dX9_writeWord_8 rfl (lv_at hl 2 rfl) ?_
    refine lv_ldc hx hb hown (hG _ wd_763) dX9_writeWord_9 ?_
    refine lv_iand hx hb dX9_writeWord_11 ?_
    refine lv_topi (fun v22 ev22 => ?_)
    have iv22 : iv v22 0 65531 := iv_eq ev22 (iv_and (x := x1) (iv_w (by decide : iv 65531 65531 65531) (by decide) (by decide) : iv 65531 0 65531))
    refine va_put (D := (dC, dI)) (ci := 9) (v := .int v22) (ty := .int) (C := RX9) (T := TX9) (N := 6) hx hb hG inGX9 tyX9 tyX9_ok nmX9 hown hK hP hD hS 0 rfl rfl 2 (by decide) (hG _ wd_97) (fun _ h9 => h9) rfl (by decide +kernel) rfl rfl (Nat.le_of_ble_eq_true rfl) dX9_writeWord_12 (fun H locs hP hD hS => ?_)
    have hP : va_P (dC, dI) vwCl [(h0, .inr (9, [.ref h1, .ref h2, .int v22, .int 0, .int 0, .int 0])), (h2, .inl (y0, 3, .inl (fun _ => 0))), (h1, .inl (y1, 3, .inl (fun _ => 0)))] H := hP
    have hD : va_D A [(h0, .inr (9, [.ref h1, .ref h2, .int v22, .int 0, .int 0, .int 0])), (h2, .inl (y0, 3, .inl (fun _ => 0))), (h1, .inl (y1, 3, .inl (fun _ => 0)))] := hD
    refine lv_iload_n hx hb dX9_writeWord_15 rfl (lv_at hl 2 rfl) ?_
    refine lv_iconst (v := 4) hx hb dX9_writeWord_16 (by decide) ?_
    refine lv_iand hx hb dX9_writeWord_17 ?_
    refine lv_topi (fun v23 ev23 => ?_)
    have iv23 : iv v23 0 4 := iv_eq ev23 (iv_and (x := x1) (iv_w (by decide : iv 4 4 4) (by decide) (by decide) : iv 4 0 4))
    refine lv_if_eq (tgt := 103) hx hb dX9_writeWord_18 (by decide) (fun c24 => ?_) (fun c24 => ?_)
    · skip
      subst c24
      have hP9 := hP.sub (ws' := [(h0, .inr (9, [.ref h1, .ref h2, .int v22, .int 0, .int 0, .int 0])), (h2, .inl (y0, 3, .inl (fun _ => 0))), (h1, .inl (y1, 3, .inl (fun _ => 0)))]) [0, 1, 2] rfl
      have hD9 := hD.sub (ws' := [(h0, .inr (9, [.ref h1, .ref h2, .int v22, .int 0, .int 0, .int 0])), (h2, .inl (y0, 3, .inl (fun _ => 0))), (h1, .inl (y1, 3, .inl (fun _ => 0)))]) [0, 1, 2] (by decide) rfl
      have hK9 := hK.sub (tys' := [(y0, .int), (y1, .int)]) [0, 1] rfl
      exact W.vret hx hb hr (fun t ht hW => ⟨⟨(v22, 0, (fun _ => 0), (fun _ => 0)), rfl, ⟨iv_w iv22 (by decide) (by decide), (fun _ => (by decide : iv 0 0 17)), trivial⟩, by rw [ht]; exact hP9, va_K.moved hW.alike hK9, hD9⟩, hS.F ht⟩) hS.2.2 dX9_writeWord_103
    · skip
      have j25 : iv v23 1 4 := iv_neLo iv23 (by decide : iv 0 0 0) c24 (by decide)
      refine lv_aload_n hx hb dX9_writeWord_21 rfl (lv_at hl 0 rfl) ?_
      have hPc := hP.sub (ws' := [(h0, .inr (9, [.ref h1, .ref h2, .int v22, .int 0, .int 0, .int 0]))]) [0] rfl
      have hDc := hD.sub (ws' := [(h0, .inr (9, [.ref h1, .ref h2, .int v22, .int 0, .int 0, .int 0]))]) [0] (by decide) rfl
      have hKc := hK.sub (tys' := []) [] rfl
      have hFc := va_free (wc := [(h0, .inr (9, [.ref h1, .ref h2, .int v22, .int 0, .int 0, .int 0]))]) hD hS hA [0] rfl
      refine va_callv (va_runV (As := []) (rest := []) ⟨hx, hb, hml, hown, hG⟩ (cX9_startAnew_2 l dC dI h0 h1 h2 H.size v22 iv22) (cwV 0 hG (gV wd_764 wd_766 wp_30 wd_5 wd_767) rfl rfl rfl (by decide +kernel) ⟨Nat.le_of_ble_eq_true rfl, Nat.le_of_ble_eq_true rfl⟩) ⟨fun a U g mk q => by obtain ⟨q0, q1, qP, qK, qD⟩ := q; exact ⟨q0, q1, qP, va_K.moved (u := U) (U := U.calling g mk a) (Vm.Alike.refl U.vm) qK, qD⟩, va_recv hKc hPc (ci := 9) (q0 := 0) rfl rfl, fun U hU hW => ⟨rfl, by rw [hU], by rw [hU]; exact hPc, va_K.moved hW.alike hKc, hDc.weaken (fun _ _ _ _ => trivial)⟩⟩ rfl rfl hl.1 rfl (lv_room (Nat.le_of_ble_eq_true rfl)) dX9_writeWord_22 ⟨by decide, by decide⟩) hS (fun q _ h => hFc q h) hFc (fun u27 t H1 locs ht hvm hw hB hz1 hk1 hS => ?_)
      obtain ⟨hP1, hK1, hD1⟩ := hB
      rw [ht] at hP1
      have hK1 := va_K.moved hvm.symm hK1
      obtain ⟨hP, hD⟩ := va_join (wr := [(h2, .inl (y0, 3, .inl (fun _ => 0))), (h1, .inl (y1, 3, .inl (fun _ => 0)))]) (w1 := [(h0, .inr (9, [.ref h1, .ref h2, .int v22, .int 0, .int 0, .int 0]))]) hP hD [0] [1, 2] rfl rfl (by decide) (by decide) hk1 hFc hP1 hD1
      have hK := (hK.sub (tys' := [(y0, .int), (y1, .int)]) [0, 1] rfl).app hK1
      generalize H1 = H at hP hS ⊢
      have hP : va_P (dC, dI) vwCl [(h2, .inl (y0, 3, .inl (fun _ => 0))), (h1, .inl (y1, 3, .inl (fun _ => 0))), (h0, .inr (9, [.ref h1, .ref h2, .int v22, .int 0, .int 0, .int 0]))] H := hP
      have hD : va_D A [(h2, .inl (y0, 3, .inl (fun _ => 0))), (h1, .inl (y1, 3, .inl (fun _ => 0))), (h0, .inr (9, [.ref h1, .ref h2, .int v22, .int 0, .int 0, .int 0]))] := hD
      have hK : va_K (dC, dI) vwCl [(y0, .int), (y1, .int)] s := hK
      refine lv_goto (tgt := 103) hx hb dX9_writeWord_25 (by decide) ?_
      have hP9 := hP.sub (ws' := [(h0, .inr (9, [.ref h1, .ref h2, .int v22, .int 0, .int 0, .int 0])), (h2, .inl (y0, 3, .inl (fun _ => 0))), (h1, .inl (y1, 3, .inl (fun _ => 0)))]) [2, 0, 1] rfl
      have hD9 := hD.sub (ws' := [(h0, .inr (9, [.ref h1, .ref h2, .int v22, .int 0, .int 0, .int 0])), (h2, .inl (y0, 3, .inl (fun _ => 0))), (h1, .inl (y1, 3, .inl (fun _ => 0)))]) [2, 0, 1] (by decide) rfl
      have hK9 := hK.sub (tys' := [(y0, .int), (y1, .int)]) [0, 1] rfl
      exact W.vret hx hb hr (fun t ht hW => ⟨⟨(v22, 0, (fun _ => 0), (fun _ => 0)), rfl, ⟨iv_w iv22 (by decide) (by decide), (fun _ => (by decide : iv 0 0 17)), trivial⟩, by rw [ht]; exact hP9, va_K.moved hW.alike hK9, hD9⟩, hS.F ht⟩) hS.2.2 dX9_writeWord_103
