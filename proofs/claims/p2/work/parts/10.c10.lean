set_option maxHeartbeats 100000000 in
set_option maxRecDepth 100000 in
theorem cX5_word_1 (l : Launch) (dC : Nat → ClassId) (dI : Nat → Nat → Nat) (h0 : Nat) (sz : Nat) (x0 x1 x2 x3 x4 x5 x6 : Int32) : Met l yX5_word (Cond.code yX5_word cX5_word 2 (some .int) :: lw_G) ({ frames := 0, cells := 0, slots := 0, locals := 0 }) (va_Pc [.ref h0, .int x0] (fun U => U.heap.size = sz ∧ va_P (dC, dI) vwCl [(h0, .inr (5, [.int x1, .int x2, .int x3, .int x4, .int x5, .int x6]))] U.heap ∧ va_K (dC, dI) vwCl [] U ∧ va_D (fun _ => True) [(h0, .inr (5, [.int x1, .int x2, .int x3, .int x4, .int x5, .int x6]))])) (va_Qi (fun (r : Int32) (u : Unit) => True) (fun (u : Unit) (t : State) => va_P (dC, dI) vwCl [(h0, .inr (5, [.int x1, .int x2, .int x3, .int x4, .int x5, .int x6]))] t.heap ∧ va_K (dC, dI) vwCl [] t ∧ va_D (va_A [(h0, .inr (5, [.int x1, .int x2, .int x3, .int x4, .int x5, .int x6]))] sz) [(h0, .inr (5, [.int x1, .int x2, .int x3, .int x4, .int x5, .int x6]))]) (va_A [(h0, .inr (5, [.int x1, .int x2, .int x3, .int x4, .int x5, .int x6]))] sz)) 0 0 (va_A [(h0, .inr (5, [.int x1, .int x2, .int x3, .int x4, .int x5, .int x6]))] sz) := by
  refine Met.ofW (cc := cX5_word) (maxL := 2) (ret := (some .int)) (by decide) rfl ?_
  intro p e s m args below meth c s₁ B hml hv
  obtain ⟨rfl, hsz, hP, hK, hD0⟩ := hv
  have hx := B.exec
  have hb := B.bytes
  have hr := B.returns
  have hts0 := atoms_spec (ws := Cond.code yX5_word cX5_word 2 (some .int) :: lw_G) B.pre
  have hG : ∀ w ∈ lw_G, w.before _ s = true := fun w h => hts0 w (List.mem_cons_of_mem _ h)
  have hown : s.vm.findClass RX5 = some m.cls := findClass_of_methodNamed B.named
  have hlocks := B.notSynchronized
  subst hsz
  have hD := hD0.self (sz := s.heap.size)
  generalize hAe : va_A [(h0, .inr (5, [.int x1, .int x2, .int x3, .int x4, .int x5, .int x6]))] s.heap.size = A at hD ⊢
  have hA : ∀ q : Nat, s.heap.size ≤ q → A q := fun q h => by rw [← hAe]; exact Or.inr h
  have hS : va_S A s.heap s.heap [] := va_S.rf
  have hP : va_P (dC, dI) vwCl [(h0, .inr (5, [.int x1, .int x2, .int x3, .int x4, .int x5, .int x6]))] s.heap := hP
  have hl := lv_entry ([.ref h0, .int x0]) (n := 2) (Nat.le_of_ble_eq_true rfl)
  rw [lg_entry_eq]
  generalize (lg_sl ([.ref h0, .int x0]) ++ List.replicate (2 - (lg_sl ([.ref h0, .int x0])).length) Slot.unset).toArray = ls at hl ⊢
  have hl : lv_has ls 2 [(0, .ref h0), (1, .int x0)] := hl
  generalize ([.ref h0, .int x0] : List Value).toArray = ar at hG ⊢
  refine wq (fun Q hQ => ?_)
  refine lv_iload_n hx hb dX5_word_0 rfl (lv_at hl 1 rfl) ?_
  have s1x : (x0.toInt < 304 ∨ 318 < x0.toInt) ∨ x0 = 304 ∨ x0 = 305 ∨ x0 = 306 ∨ x0 = 307 ∨ x0 = 308 ∨ x0 = 309 ∨ x0 = 310 ∨ x0 = 311 ∨ x0 = 312 ∨ x0 = 313 ∨ x0 = 314 ∨ x0 = 315 ∨ x0 = 316 ∨ x0 = 317 ∨ x0 = 318 := by
    have h1 := (iv_any x0)
    have : (x0.toInt < 304 ∨ 318 < x0.toInt) ∨ x0.toInt = 304 ∨ x0.toInt = 305 ∨ x0.toInt = 306 ∨ x0.toInt = 307 ∨ x0.toInt = 308 ∨ x0.toInt = 309 ∨ x0.toInt = 310 ∨ x0.toInt = 311 ∨ x0.toInt = 312 ∨ x0.toInt = 313 ∨ x0.toInt = 314 ∨ x0.toInt = 315 ∨ x0.toInt = 316 ∨ x0.toInt = 317 ∨ x0.toInt = 318 := by omega
    rcases this with q | q | q | q | q | q | q | q | q | q | q | q | q | q | q | q
    · exact Or.inl q
    · exact Or.inr (Or.inl (Int32.toInt_inj.mp q))
    · exact Or.inr (Or.inr (Or.inl (Int32.toInt_inj.mp q)))
    · exact Or.inr (Or.inr (Or.inr (Or.inl (Int32.toInt_inj.mp q))))
    · exact Or.inr (Or.inr (Or.inr (Or.inr (Or.inl (Int32.toInt_inj.mp q)))))
    · exact Or.inr (Or.inr (Or.inr (Or.inr (Or.inr (Or.inl (Int32.toInt_inj.mp q))))))
    · exact Or.inr (Or.inr (Or.inr (Or.inr (Or.inr (Or.inr (Or.inl (Int32.toInt_inj.mp q)))))))
    · exact Or.inr (Or.inr (Or.inr (Or.inr (Or.inr (Or.inr (Or.inr (Or.inl (Int32.toInt_inj.mp q))))))))
    · exact Or.inr (Or.inr (Or.inr (Or.inr (Or.inr (Or.inr (Or.inr (Or.inr (Or.inl (Int32.toInt_inj.mp q)))))))))
    · exact Or.inr (Or.inr (Or.inr (Or.inr (Or.inr (Or.inr (Or.inr (Or.inr (Or.inr (Or.inl (Int32.toInt_inj.mp q))))))))))
    · exact Or.inr (Or.inr (Or.inr (Or.inr (Or.inr (Or.inr (Or.inr (Or.inr (Or.inr (Or.inr (Or.inl (Int32.toInt_inj.mp q)))))))))))
    · exact Or.inr (Or.inr (Or.inr (Or.inr (Or.inr (Or.inr (Or.inr (Or.inr (Or.inr (Or.inr (Or.inr (Or.inl (Int32.toInt_inj.mp q))))))))))))
    · exact Or.inr (Or.inr (Or.inr (Or.inr (Or.inr (Or.inr (Or.inr (Or.inr (Or.inr (Or.inr (Or.inr (Or.inr (Or.inl (Int32.toInt_inj.mp q)))))))))))))
    · exact Or.inr (Or.inr (Or.inr (Or.inr (Or.inr (Or.inr (Or.inr (Or.inr (Or.inr (Or.inr (Or.inr (Or.inr (Or.inr (Or.inl (Int32.toInt_inj.mp q))))))))))))))
    · exact Or.inr (Or.inr (Or.inr (Or.inr (Or.inr (Or.inr (Or.inr (Or.inr (Or.inr (Or.inr (Or.inr (Or.inr (Or.inr (Or.inr (Or.inl (Int32.toInt_inj.mp q)))))))))))))))
    · exact Or.inr (Or.inr (Or.inr (Or.inr (Or.inr (Or.inr (Or.inr (Or.inr (Or.inr (Or.inr (Or.inr (Or.inr (Or.inr (Or.inr (Or.inr ((Int32.toInt_inj.mp q))))))))))))))))
  rcases s1x with s1 | rfl | rfl | rfl | rfl | rfl | rfl | rfl | rfl | rfl | rfl | rfl | rfl | rfl | rfl | rfl
  · skip
    refine lv_tableOut (tgt := 101) hx hb dX5_word_1 s1 (by decide) ?_
    refine lv_iconst (v := 0) hx hb dX5_word_101 (by decide) ?_
    rw [hQ]
    obtain ⟨hP9, hD9⟩ := nv_sub2 (wc := [(h0, .inr (5, [.int x1, .int x2, .int x3, .int x4, .int x5, .int x6]))]) hP hD [0] (by decide) rfl
    have hK9 := hK.sub (tys' := []) [] rfl
    exact W.iret (v := 0) hx hb hr (fun t ht hW => ⟨⟨0, (), rfl, trivial, by rw [ht]; exact hP9, va_K.moved hW.alike hK9, hD9⟩, hS.F ht⟩) hS.2.2 dX5_word_102
  · skip
    refine lv_tableIn (off := 75) (tgt := 76) hx hb dX5_word_1 (by decide) (by decide) (by decide) (by decide) ?_
    refine lv_aload_n hx hb dX5_word_76 rfl (lv_at hl 0 rfl) ?_
    refine va_get (D := (dC, dI)) (ci := 5) (v := .int x2) (C := RX5) (T := TX5) (N := 6) hx hb hG inGX5 hown hK hP 0 rfl rfl 1 (by decide) (hG _ wd_71) (fun _ h9 => h9) rfl dX5_word_77 ?_
    rw [hQ]
    obtain ⟨hP9, hD9⟩ := nv_sub2 (wc := [(h0, .inr (5, [.int x1, .int x2, .int x3, .int x4, .int x5, .int x6]))]) hP hD [0] (by decide) rfl
    have hK9 := hK.sub (tys' := []) [] rfl
    exact W.iret (v := x2) hx hb hr (fun t ht hW => ⟨⟨x2, (), rfl, trivial, by rw [ht]; exact hP9, va_K.moved hW.alike hK9, hD9⟩, hS.F ht⟩) hS.2.2 dX5_word_80
  · skip
    refine lv_tableIn (off := 100) (tgt := 101) hx hb dX5_word_1 (by decide) (by decide) (by decide) (by decide) ?_
    refine lv_iconst (v := 0) hx hb dX5_word_101 (by decide) ?_
    rw [hQ]
    obtain ⟨hP9, hD9⟩ := nv_sub2 (wc := [(h0, .inr (5, [.int x1, .int x2, .int x3, .int x4, .int x5, .int x6]))]) hP hD [0] (by decide) rfl
    have hK9 := hK.sub (tys' := []) [] rfl
    exact W.iret (v := 0) hx hb hr (fun t ht hW => ⟨⟨0, (), rfl, trivial, by rw [ht]; exact hP9, va_K.moved hW.alike hK9, hD9⟩, hS.F ht⟩) hS.2.2 dX5_word_102
  · skip
    refine lv_tableIn (off := 75) (tgt := 76) hx hb dX5_word_1 (by decide) (by decide) (by decide) (by decide) ?_
    refine lv_aload_n hx hb dX5_word_76 rfl (lv_at hl 0 rfl) ?_
    refine va_get (D := (dC, dI)) (ci := 5) (v := .int x2) (C := RX5) (T := TX5) (N := 6) hx hb hG inGX5 hown hK hP 0 rfl rfl 1 (by decide) (hG _ wd_71) (fun _ h9 => h9) rfl dX5_word_77 ?_
    rw [hQ]
    obtain ⟨hP9, hD9⟩ := nv_sub2 (wc := [(h0, .inr (5, [.int x1, .int x2, .int x3, .int x4, .int x5, .int x6]))]) hP hD [0] (by decide) rfl
    have hK9 := hK.sub (tys' := []) [] rfl
    exact W.iret (v := x2) hx hb hr (fun t ht hW => ⟨⟨x2, (), rfl, trivial, by rw [ht]; exact hP9, va_K.moved hW.alike hK9, hD9⟩, hS.F ht⟩) hS.2.2 dX5_word_80
  · skip
    refine lv_tableIn (off := 100) (tgt := 101) hx hb dX5_word_1 (by decide) (by decide) (by decide) (by decide) ?_
    refine lv_iconst (v := 0) hx hb dX5_word_101 (by decide) ?_
    rw [hQ]
    obtain ⟨hP9, hD9⟩ := nv_sub2 (wc := [(h0, .inr (5, [.int x1, .int x2, .int x3, .int x4, .int x5, .int x6]))]) hP hD [0] (by decide) rfl
    have hK9 := hK.sub (tys' := []) [] rfl
    exact W.iret (v := 0) hx hb hr (fun t ht hW => ⟨⟨0, (), rfl, trivial, by rw [ht]; exact hP9, va_K.moved hW.alike hK9, hD9⟩, hS.F ht⟩) hS.2.2 dX5_word_102
  · skip
    refine lv_tableIn (off := 75) (tgt := 76) hx hb dX5_word_1 (by decide) (by decide) (by decide) (by decide) ?_
    refine lv_aload_n hx hb dX5_word_76 rfl (lv_at hl 0 rfl) ?_
    refine va_get (D := (dC, dI)) (ci := 5) (v := .int x2) (C := RX5) (T := TX5) (N := 6) hx hb hG inGX5 hown hK hP 0 rfl rfl 1 (by decide) (hG _ wd_71) (fun _ h9 => h9) rfl dX5_word_77 ?_
    rw [hQ]
    obtain ⟨hP9, hD9⟩ := nv_sub2 (wc := [(h0, .inr (5, [.int x1, .int x2, .int x3, .int x4, .int x5, .int x6]))]) hP hD [0] (by decide) rfl
    have hK9 := hK.sub (tys' := []) [] rfl
    exact W.iret (v := x2) hx hb hr (fun t ht hW => ⟨⟨x2, (), rfl, trivial, by rw [ht]; exact hP9, va_K.moved hW.alike hK9, hD9⟩, hS.F ht⟩) hS.2.2 dX5_word_80
  · skip
    refine lv_tableIn (off := 100) (tgt := 101) hx hb dX5_word_1 (by decide) (by decide) (by decide) (by decide) ?_
    refine lv_iconst (v := 0) hx hb dX5_word_101 (by decide) ?_
    rw [hQ]
    obtain ⟨hP9, hD9⟩ := nv_sub2 (wc := [(h0, .inr (5, [.int x1, .int x2, .int x3, .int x4, .int x5, .int x6]))]) hP hD [0] (by decide) rfl
    have hK9 := hK.sub (tys' := []) [] rfl
    exact W.iret (v := 0) hx hb hr (fun t ht hW => ⟨⟨0, (), rfl, trivial, by rw [ht]; exact hP9, va_K.moved hW.alike hK9, hD9⟩, hS.F ht⟩) hS.2.2 dX5_word_102
  · skip
    refine lv_tableIn (off := 100) (tgt := 101) hx hb dX5_word_1 (by decide) (by decide) (by decide) (by decide) ?_
    refine lv_iconst (v := 0) hx hb dX5_word_101 (by decide) ?_
    rw [hQ]
    obtain ⟨hP9, hD9⟩ := nv_sub2 (wc := [(h0, .inr (5, [.int x1, .int x2, .int x3, .int x4, .int x5, .int x6]))]) hP hD [0] (by decide) rfl
    have hK9 := hK.sub (tys' := []) [] rfl
    exact W.iret (v := 0) hx hb hr (fun t ht hW => ⟨⟨0, (), rfl, trivial, by rw [ht]; exact hP9, va_K.moved hW.alike hK9, hD9⟩, hS.F ht⟩) hS.2.2 dX5_word_102
  · skip
    refine lv_tableIn (off := 100) (tgt := 101) hx hb dX5_word_1 (by decide) (by decide) (by decide) (by decide) ?_
    refine lv_iconst (v := 0) hx hb dX5_word_101 (by decide) ?_
    rw [hQ]
    obtain ⟨hP9, hD9⟩ := nv_sub2 (wc := [(h0, .inr (5, [.int x1, .int x2, .int x3, .int x4, .int x5, .int x6]))]) hP hD [0] (by decide) rfl
    have hK9 := hK.sub (tys' := []) [] rfl
    exact W.iret (v := 0) hx hb hr (fun t ht hW => ⟨⟨0, (), rfl, trivial, by rw [ht]; exact hP9, va_K.moved hW.alike hK9, hD9⟩, hS.F ht⟩) hS.2.2 dX5_word_102
  · skip
    refine lv_tableIn (off := 80) (tgt := 81) hx hb dX5_word_1 (by decide) (by decide) (by decide) (by decide) ?_
    refine lv_aload_n hx hb dX5_word_81 rfl (lv_at hl 0 rfl) ?_
    refine va_get (D := (dC, dI)) (ci := 5) (v := .int x3) (C := RX5) (T := TX5) (N := 6) hx hb hG inGX5 hown hK hP 0 rfl rfl 2 (by decide) (hG _ wd_72) (fun _ h9 => h9) rfl dX5_word_82 ?_
    rw [hQ]
    obtain ⟨hP9, hD9⟩ := nv_sub2 (wc := [(h0, .inr (5, [.int x1, .int x2, .int x3, .int x4, .int x5, .int x6]))]) hP hD [0] (by decide) rfl
    have hK9 := hK.sub (tys' := []) [] rfl
    exact W.iret (v := x3) hx hb hr (fun t ht hW => ⟨⟨x3, (), rfl, trivial, by rw [ht]; exact hP9, va_K.moved hW.alike hK9, hD9⟩, hS.F ht⟩) hS.2.2 dX5_word_85
  · skip
    refine lv_tableIn (off := 100) (tgt := 101) hx hb dX5_word_1 (by decide) (by decide) (by decide) (by decide) ?_
    refine lv_iconst (v := 0) hx hb dX5_word_101 (by decide) ?_
    rw [hQ]
    obtain ⟨hP9, hD9⟩ := nv_sub2 (wc := [(h0, .inr (5, [.int x1, .int x2, .int x3, .int x4, .int x5, .int x6]))]) hP hD [0] (by decide) rfl
    have hK9 := hK.sub (tys' := []) [] rfl
    exact W.iret (v := 0) hx hb hr (fun t ht hW => ⟨⟨0, (), rfl, trivial, by rw [ht]; exact hP9, va_K.moved hW.alike hK9, hD9⟩, hS.F ht⟩) hS.2.2 dX5_word_102
  · skip
    refine lv_tableIn (off := 85) (tgt := 86) hx hb dX5_word_1 (by decide) (by decide) (by decide) (by decide) ?_
    refine lv_aload_n hx hb dX5_word_86 rfl (lv_at hl 0 rfl) ?_
    refine va_get (D := (dC, dI)) (ci := 5) (v := .int x4) (C := RX5) (T := TX5) (N := 6) hx hb hG inGX5 hown hK hP 0 rfl rfl 3 (by decide) (hG _ wd_73) (fun _ h9 => h9) rfl dX5_word_87 ?_
    rw [hQ]
    obtain ⟨hP9, hD9⟩ := nv_sub2 (wc := [(h0, .inr (5, [.int x1, .int x2, .int x3, .int x4, .int x5, .int x6]))]) hP hD [0] (by decide) rfl
    have hK9 := hK.sub (tys' := []) [] rfl
    exact W.iret (v := x4) hx hb hr (fun t ht hW => ⟨⟨x4, (), rfl, trivial, by rw [ht]; exact hP9, va_K.moved hW.alike hK9, hD9⟩, hS.F ht⟩) hS.2.2 dX5_word_90
  · skip
    refine lv_tableIn (off := 100) (tgt := 101) hx hb dX5_word_1 (by decide) (by decide) (by decide) (by decide) ?_
    refine lv_iconst (v := 0) hx hb dX5_word_101 (by decide) ?_
    rw [hQ]
    obtain ⟨hP9, hD9⟩ := nv_sub2 (wc := [(h0, .inr (5, [.int x1, .int x2, .int x3, .int x4, .int x5, .int x6]))]) hP hD [0] (by decide) rfl
    have hK9 := hK.sub (tys' := []) [] rfl
    exact W.iret (v := 0) hx hb hr (fun t ht hW => ⟨⟨0, (), rfl, trivial, by rw [ht]; exact hP9, va_K.moved hW.alike hK9, hD9⟩, hS.F ht⟩) hS.2.2 dX5_word_102
  · skip
    refine lv_tableIn (off := 90) (tgt := 91) hx hb dX5_word_1 (by decide) (by decide) (by decide) (by decide) ?_
    refine lv_aload_n hx hb dX5_word_91 rfl (lv_at hl 0 rfl) ?_
    refine va_get (D := (dC, dI)) (ci := 5) (v := .int x5) (C := RX5) (T := TX5) (N := 6) hx hb hG inGX5 hown hK hP 0 rfl rfl 4 (by decide) (hG _ wd_74) (fun _ h9 => h9) rfl dX5_word_92 ?_
    rw [hQ]
    obtain ⟨hP9, hD9⟩ := nv_sub2 (wc := [(h0, .inr (5, [.int x1, .int x2, .int x3, .int x4, .int x5, .int x6]))]) hP hD [0] (by decide) rfl
    have hK9 := hK.sub (tys' := []) [] rfl
    exact W.iret (v := x5) hx hb hr (fun t ht hW => ⟨⟨x5, (), rfl, trivial, by rw [ht]; exact hP9, va_K.moved hW.alike hK9, hD9⟩, hS.F ht⟩) hS.2.2 dX5_word_95
  · skip
    refine lv_tableIn (off := 100) (tgt := 101) hx hb dX5_word_1 (by decide) (by decide) (by decide) (by decide) ?_
    refine lv_iconst (v := 0) hx hb dX5_word_101 (by decide) ?_
    rw [hQ]
    obtain ⟨hP9, hD9⟩ := nv_sub2 (wc := [(h0, .inr (5, [.int x1, .int x2, .int x3, .int x4, .int x5, .int x6]))]) hP hD [0] (by decide) rfl
    have hK9 := hK.sub (tys' := []) [] rfl
    exact W.iret (v := 0) hx hb hr (fun t ht hW => ⟨⟨0, (), rfl, trivial, by rw [ht]; exact hP9, va_K.moved hW.alike hK9, hD9⟩, hS.F ht⟩) hS.2.2 dX5_word_102
  · skip
    refine lv_tableIn (off := 95) (tgt := 96) hx hb dX5_word_1 (by decide) (by decide) (by decide) (by decide) ?_
    refine lv_aload_n hx hb dX5_word_96 rfl (lv_at hl 0 rfl) ?_
    refine va_get (D := (dC, dI)) (ci := 5) (v := .int x6) (C := RX5) (T := TX5) (N := 6) hx hb hG inGX5 hown hK hP 0 rfl rfl 5 (by decide) (hG _ wd_75) (fun _ h9 => h9) rfl dX5_word_97 ?_
    rw [hQ]
    obtain ⟨hP9, hD9⟩ := nv_sub2 (wc := [(h0, .inr (5, [.int x1, .int x2, .int x3, .int x4, .int x5, .int x6]))]) hP hD [0] (by decide) rfl
    have hK9 := hK.sub (tys' := []) [] rfl
    exact W.iret (v := x6) hx hb hr (fun t ht hW => ⟨⟨x6, (), rfl, trivial, by rw [ht]; exact hP9, va_K.moved hW.alike hK9, hD9⟩, hS.F ht⟩) hS.2.2 dX5_word_100
set_option maxHeartbeats 100000000 in
set_option maxRecDepth 100000 in
theorem cX9_vector_1 (l : Launch) (dC : Nat → ClassId) (dI : Nat → Nat → Nat) (h0 h1 h2 : Nat) (y0 : ClassId) (sz : Nat) (x0 x1 x2 x3 : Int32) (f0 : Nat → Int32) (ix3 : iv x3 0 1) : Met l yX9_vector (Cond.code yX9_vector cX9_vector 1 (some .int) :: lw_G) ({ frames := 0, cells := 0, slots := 0, locals := 0 }) (va_Pc [.ref h0] (fun U => U.heap.size = sz ∧ va_P (dC, dI) vwCl [(h0, .inr (9, [.ref h1, .ref h2, .int x0, .int x1, .int x2, .int x3])), (h1, .inl (y0, 3, .inl f0))] U.heap ∧ va_K (dC, dI) vwCl [(y0, .int)] U ∧ va_D (fun _ => True) [(h0, .inr (9, [.ref h1, .ref h2, .int x0, .int x1, .int x2, .int x3])), (h1, .inl (y0, 3, .inl f0))])) (va_Qi (fun (r : Int32) (u : Unit) => iv r 0 10 ∧ True) (fun (u : Unit) (t : State) => va_P (dC, dI) vwCl [(h0, .inr (9, [.ref h1, .ref h2, .int x0, .int x1, .int x2, .int x3])), (h1, .inl (y0, 3, .inl f0))] t.heap ∧ va_K (dC, dI) vwCl [(y0, .int)] t ∧ va_D (va_A [(h0, .inr (9, [.ref h1, .ref h2, .int x0, .int x1, .int x2, .int x3])), (h1, .inl (y0, 3, .inl f0))] sz) [(h0, .inr (9, [.ref h1, .ref h2, .int x0, .int x1, .int x2, .int x3])), (h1, .inl (y0, 3, .inl f0))]) (va_A [(h0, .inr (9, [.ref h1, .ref h2, .int x0, .int x1, .int x2, .int x3])), (h1, .inl (y0, 3, .inl f0))] sz)) 0 0 (va_A [(h0, .inr (9, [.ref h1, .ref h2, .int x0, .int x1, .int x2, .int x3])), (h1, .inl (y0, 3, .inl f0))] sz) := by
  refine Met.ofW (cc := cX9_vector) (maxL := 1) (ret := (some .int)) (by decide) rfl ?_
  intro p e s m args below meth c s₁ B hml hv
  obtain ⟨rfl, hsz, hP, hK, hD0⟩ := hv
  have hx := B.exec
  have hb := B.bytes
  have hr := B.returns
  have hts0 := atoms_spec (ws := Cond.code yX9_vector cX9_vector 1 (some .int) :: lw_G) B.pre
  have hG : ∀ w ∈ lw_G, w.before _ s = true := fun w h => hts0 w (List.mem_cons_of_mem _ h)
  have hown : s.vm.findClass RX9 = some m.cls := findClass_of_methodNamed B.named
  have hlocks := B.notSynchronized
  subst hsz
  have hD := hD0.self (sz := s.heap.size)
  generalize hAe : va_A [(h0, .inr (9, [.ref h1, .ref h2, .int x0, .int x1, .int x2, .int x3])), (h1, .inl (y0, 3, .inl f0))] s.heap.size = A at hD ⊢
  have hA : ∀ q : Nat, s.heap.size ≤ q → A q := fun q h => by rw [← hAe]; exact Or.inr h
  have hS : va_S A s.heap s.heap [] := va_S.rf
  have hP : va_P (dC, dI) vwCl [(h0, .inr (9, [.ref h1, .ref h2, .int x0, .int x1, .int x2, .int x3])), (h1, .inl (y0, 3, .inl f0))] s.heap := hP
  have hl := lv_entry ([.ref h0]) (n := 1) (Nat.le_of_ble_eq_true rfl)
  rw [lg_entry_eq]
  generalize (lg_sl ([.ref h0]) ++ List.replicate (1 - (lg_sl ([.ref h0])).length) Slot.unset).toArray = ls at hl ⊢
  have hl : lv_has ls 1 [(0, .ref h0)] := hl
  generalize ([.ref h0] : List Value).toArray = ar at hG ⊢
  refine wq (fun Q hQ => ?_)
  refine lv_aload_n hx hb dX9_vector_0 rfl (lv_at hl 0 rfl) ?_
  refine va_get (D := (dC, dI)) (ci := 9) (v := .ref h1) (C := RX9) (T := TX9) (N := 6) hx hb hG inGX9 hown hK hP 0 rfl rfl 0 (by decide) (hG _ wd_95) (fun _ h9 => h9) rfl dX9_vector_1 ?_
  refine lv_iconst (v := 1) hx hb dX9_vector_4 (by decide) ?_
  refine va_iald hx hb hK hP 1 0 rfl rfl (iv_in (by decide : iv 1 1 1) (by decide) (by decide) : vp_in 1 3) dX9_vector_5 ?_
  refine lv_topi (fun v1 ev1 => ?_)
  refine lv_bipush (v := 17) hx hb dX9_vector_6 (by decide) ?_
  refine lv_icmp_ne (tgt := 13) hx hb dX9_vector_8 (by decide) (fun c2 => ?_) (fun c2 => ?_)
  · skip
    refine lv_aload_n hx hb dX9_vector_13 rfl (lv_at hl 0 rfl) ?_
    refine va_get (D := (dC, dI)) (ci := 9) (v := .ref h1) (C := RX9) (T := TX9) (N := 6) hx hb hG inGX9 hown hK hP 0 rfl rfl 0 (by decide) (hG _ wd_95) (fun _ h9 => h9) rfl dX9_vector_14 ?_
    refine lv_iconst (v := 2) hx hb dX9_vector_17 (by decide) ?_
    refine va_iald hx hb hK hP 1 0 rfl rfl (iv_in (by decide : iv 2 2 2) (by decide) (by decide) : vp_in 2 3) dX9_vector_18 ?_
    refine lv_topi (fun v3 ev3 => ?_)
    refine lv_bipush (v := 17) hx hb dX9_vector_19 (by decide) ?_
    refine lv_icmp_ne (tgt := 26) hx hb dX9_vector_21 (by decide) (fun c4 => ?_) (fun c4 => ?_)
    · skip
      refine lv_aload_n hx hb dX9_vector_26 rfl (lv_at hl 0 rfl) ?_
      refine va_get (D := (dC, dI)) (ci := 9) (v := .int x0) (C := RX9) (T := TX9) (N := 6) hx hb hG inGX9 hown hK hP 0 rfl rfl 2 (by decide) (hG _ wd_97) (fun _ h9 => h9) rfl dX9_vector_27 ?_
      refine lv_iconst (v := 3) hx hb dX9_vector_30 (by decide) ?_
      refine lv_iand hx hb dX9_vector_31 ?_
      refine lv_topi (fun v5 ev5 => ?_)
      have iv5 : iv v5 0 3 := iv_eq ev5 (iv_and (x := x0) (iv_w (by decide : iv 3 3 3) (by decide) (by decide) : iv 3 0 3))
      refine lv_iconst (v := 3) hx hb dX9_vector_32 (by decide) ?_
      refine jcut (a := ∀ (b8 : Int32) (ib8 : iv b8 0 10) (H : Heap) (locs : List Loc) (hK : va_K (dC, dI) vwCl [(y0, .int)] s) (hP : va_P (dC, dI) vwCl [(h0, .inr (9, [.ref h1, .ref h2, .int x0, .int x1, .int x2, .int x3])), (h1, .inl (y0, 3, .inl f0))] H) (hD : va_D A [(h0, .inr (9, [.ref h1, .ref h2, .int x0, .int x1, .int x2, .int x3])), (h1, .inl (y0, 3, .inl f0))]) (hS : va_S A s.heap H locs) (ls : Array Slot) (hl : lv_has ls 1 []), W p l e (headSpec (Cond.code yX9_vector cX9_vector 1 (some .int) :: lw_G) ({ frames := 0, cells := 0, slots := 0, locals := 0 })).room s m ar below meth c H locs 0 0 Q (F0 m 42 ls [.int b8])) ?_ (fun j9 => ?_)
      · skip
        intro b8 ib8 H locs hK hP hD hS ls hl
        rw [hQ]
        obtain ⟨hP9, hD9⟩ := nv_sub2 (wc := [(h0, .inr (9, [.ref h1, .ref h2, .int x0, .int x1, .int x2, .int x3])), (h1, .inl (y0, 3, .inl f0))]) hP hD [0, 1] (by decide) rfl
        have hK9 := hK.sub (tys' := [(y0, .int)]) [0] rfl
        exact W.iret (v := b8) hx hb hr (fun t ht hW => ⟨⟨b8, (), rfl, ⟨iv_w ib8 (by decide) (by decide), trivial⟩, by rw [ht]; exact hP9, va_K.moved hW.alike hK9, hD9⟩, hS.F ht⟩) hS.2.2 dX9_vector_42
      refine lv_icmp_ne (tgt := 41) hx hb dX9_vector_33 (by decide) (fun c6 => ?_) (fun c6 => ?_)
      · skip
        have j10 : iv v5 0 2 := iv_neHi iv5 (by decide : iv 3 3 3) c6 (by decide)
        refine lv_iconst (v := 0) hx hb dX9_vector_41 (by decide) ?_
        exact j9 0 (iv_w (by decide : iv 0 0 0) (by decide) (by decide)) _ _ hK hP hD hS ls (lv_sub hl [] rfl)
      · skip
        subst c6
        refine lv_bipush (v := 10) hx hb dX9_vector_36 (by decide) ?_
        refine lv_goto (tgt := 42) hx hb dX9_vector_38 (by decide) ?_
        exact j9 10 (iv_w (by decide : iv 10 10 10) (by decide) (by decide)) _ _ hK hP hD hS ls (lv_sub hl [] rfl)
    · skip
      subst c4
      refine lv_iconst (v := 4) hx hb dX9_vector_24 (by decide) ?_
      rw [hQ]
      obtain ⟨hP9, hD9⟩ := nv_sub2 (wc := [(h0, .inr (9, [.ref h1, .ref h2, .int x0, .int x1, .int x2, .int x3])), (h1, .inl (y0, 3, .inl f0))]) hP hD [0, 1] (by decide) rfl
      have hK9 := hK.sub (tys' := [(y0, .int)]) [0] rfl
      exact W.iret (v := 4) hx hb hr (fun t ht hW => ⟨⟨4, (), rfl, ⟨iv_w (by decide : iv 4 4 4) (by decide) (by decide), trivial⟩, by rw [ht]; exact hP9, va_K.moved hW.alike hK9, hD9⟩, hS.F ht⟩) hS.2.2 dX9_vector_25
  · skip
    subst c2
    refine lv_iconst (v := 2) hx hb dX9_vector_11 (by decide) ?_
    rw [hQ]
    obtain ⟨hP9, hD9⟩ := nv_sub2 (wc := [(h0, .inr (9, [.ref h1, .ref h2, .int x0, .int x1, .int x2, .int x3])), (h1, .inl (y0, 3, .inl f0))]) hP hD [0, 1] (by decide) rfl
    have hK9 := hK.sub (tys' := [(y0, .int)]) [0] rfl
    exact W.iret (v := 2) hx hb hr (fun t ht hW => ⟨⟨2, (), rfl, ⟨iv_w (by decide : iv 2 2 2) (by decide) (by decide), trivial⟩, by rw [ht]; exact hP9, va_K.moved hW.alike hK9, hD9⟩, hS.F ht⟩) hS.2.2 dX9_vector_12
set_option maxHeartbeats 100000000 in
set_option maxRecDepth 100000 in
theorem cX7_value_1 (l : Launch) (dC : Nat → ClassId) (dI : Nat → Nat → Nat) (h0 : Nat) (sz : Nat) (x0 x1 x2 x3 x4 x5 : Int32) : Met l yX7_value (Cond.code yX7_value cX7_value 2 (some .int) :: lw_G) ({ frames := 0, cells := 0, slots := 0, locals := 0 }) (va_Pc [.ref h0, .int x0] (fun U => U.heap.size = sz ∧ va_P (dC, dI) vwCl [(h0, .inr (7, [.int x1, .int x2, .int x3, .int x4, .int x5]))] U.heap ∧ va_K (dC, dI) vwCl [] U ∧ va_D (fun _ => True) [(h0, .inr (7, [.int x1, .int x2, .int x3, .int x4, .int x5]))])) (va_Qi (fun (r : Int32) (u : Unit) => True) (fun (u : Unit) (t : State) => va_P (dC, dI) vwCl [(h0, .inr (7, [.int x1, .int x2, .int x3, .int x4, .int x5]))] t.heap ∧ va_K (dC, dI) vwCl [] t ∧ va_D (va_A [(h0, .inr (7, [.int x1, .int x2, .int x3, .int x4, .int x5]))] sz) [(h0, .inr (7, [.int x1, .int x2, .int x3, .int x4, .int x5]))]) (va_A [(h0, .inr (7, [.int x1, .int x2, .int x3, .int x4, .int x5]))] sz)) 0 0 (va_A [(h0, .inr (7, [.int x1, .int x2, .int x3, .int x4, .int x5]))] sz) := by
  refine Met.ofW (cc := cX7_value) (maxL := 2) (ret := (some .int)) (by decide) rfl ?_
  intro p e s m args below meth c s₁ B hml hv
  obtain ⟨rfl, hsz, hP, hK, hD0⟩ := hv
  have hx := B.exec
  have hb := B.bytes
  have hr := B.returns
  have hts0 := atoms_spec (ws := Cond.code yX7_value cX7_value 2 (some .int) :: lw_G) B.pre
  have hG : ∀ w ∈ lw_G, w.before _ s = true := fun w h => hts0 w (List.mem_cons_of_mem _ h)
  have hown : s.vm.findClass RX7 = some m.cls := findClass_of_methodNamed B.named
  have hlocks := B.notSynchronized
  subst hsz
  have hD := hD0.self (sz := s.heap.size)
  generalize hAe : va_A [(h0, .inr (7, [.int x1, .int x2, .int x3, .int x4, .int x5]))] s.heap.size = A at hD ⊢
  have hA : ∀ q : Nat, s.heap.size ≤ q → A q := fun q h => by rw [← hAe]; exact Or.inr h
  have hS : va_S A s.heap s.heap [] := va_S.rf
  have hP : va_P (dC, dI) vwCl [(h0, .inr (7, [.int x1, .int x2, .int x3, .int x4, .int x5]))] s.heap := hP
  have hl := lv_entry ([.ref h0, .int x0]) (n := 2) (Nat.le_of_ble_eq_true rfl)
  rw [lg_entry_eq]
  generalize (lg_sl ([.ref h0, .int x0]) ++ List.replicate (2 - (lg_sl ([.ref h0, .int x0])).length) Slot.unset).toArray = ls at hl ⊢
  have hl : lv_has ls 2 [(0, .ref h0), (1, .int x0)] := hl
  generalize ([.ref h0, .int x0] : List Value).toArray = ar at hG ⊢
  refine wq (fun Q hQ => ?_)
  refine lv_iload_n hx hb dX7_value_0 rfl (lv_at hl 1 rfl) ?_
  have s1x : (x0.toInt < 32 ∨ 37 < x0.toInt) ∨ x0 = 32 ∨ x0 = 33 ∨ x0 = 34 ∨ x0 = 35 ∨ x0 = 36 ∨ x0 = 37 := by
    have h1 := (iv_any x0)
    have : (x0.toInt < 32 ∨ 37 < x0.toInt) ∨ x0.toInt = 32 ∨ x0.toInt = 33 ∨ x0.toInt = 34 ∨ x0.toInt = 35 ∨ x0.toInt = 36 ∨ x0.toInt = 37 := by omega
    rcases this with q | q | q | q | q | q | q
    · exact Or.inl q
    · exact Or.inr (Or.inl (Int32.toInt_inj.mp q))
    · exact Or.inr (Or.inr (Or.inl (Int32.toInt_inj.mp q)))
    · exact Or.inr (Or.inr (Or.inr (Or.inl (Int32.toInt_inj.mp q))))
    · exact Or.inr (Or.inr (Or.inr (Or.inr (Or.inl (Int32.toInt_inj.mp q)))))
    · exact Or.inr (Or.inr (Or.inr (Or.inr (Or.inr (Or.inl (Int32.toInt_inj.mp q))))))
    · exact Or.inr (Or.inr (Or.inr (Or.inr (Or.inr (Or.inr ((Int32.toInt_inj.mp q)))))))
  rcases s1x with s1 | rfl | rfl | rfl | rfl | rfl | rfl
  · skip
    refine lv_tableOut (tgt := 65) hx hb dX7_value_1 s1 (by decide) ?_
    refine lv_iconst (v := 0) hx hb dX7_value_65 (by decide) ?_
    rw [hQ]
    obtain ⟨hP9, hD9⟩ := nv_sub2 (wc := [(h0, .inr (7, [.int x1, .int x2, .int x3, .int x4, .int x5]))]) hP hD [0] (by decide) rfl
    have hK9 := hK.sub (tys' := []) [] rfl
    exact W.iret (v := 0) hx hb hr (fun t ht hW => ⟨⟨0, (), rfl, trivial, by rw [ht]; exact hP9, va_K.moved hW.alike hK9, hD9⟩, hS.F ht⟩) hS.2.2 dX7_value_66
  · skip
    refine lv_tableIn (off := 39) (tgt := 40) hx hb dX7_value_1 (by decide) (by decide) (by decide) (by decide) ?_
    refine lv_aload_n hx hb dX7_value_40 rfl (lv_at hl 0 rfl) ?_
    refine va_get (D := (dC, dI)) (ci := 7) (v := .int x1) (C := RX7) (T := TX7) (N := 5) hx hb hG inGX7 hown hK hP 0 rfl rfl 0 (by decide) (hG _ wd_47) (fun _ h9 => h9) rfl dX7_value_41 ?_
    rw [hQ]
    obtain ⟨hP9, hD9⟩ := nv_sub2 (wc := [(h0, .inr (7, [.int x1, .int x2, .int x3, .int x4, .int x5]))]) hP hD [0] (by decide) rfl
    have hK9 := hK.sub (tys' := []) [] rfl
    exact W.iret (v := x1) hx hb hr (fun t ht hW => ⟨⟨x1, (), rfl, trivial, by rw [ht]; exact hP9, va_K.moved hW.alike hK9, hD9⟩, hS.F ht⟩) hS.2.2 dX7_value_44
  · skip
    refine lv_tableIn (off := 44) (tgt := 45) hx hb dX7_value_1 (by decide) (by decide) (by decide) (by decide) ?_
    refine lv_aload_n hx hb dX7_value_45 rfl (lv_at hl 0 rfl) ?_
    refine va_get (D := (dC, dI)) (ci := 7) (v := .int x2) (C := RX7) (T := TX7) (N := 5) hx hb hG inGX7 hown hK hP 0 rfl rfl 1 (by decide) (hG _ wd_48) (fun _ h9 => h9) rfl dX7_value_46 ?_
    rw [hQ]
    obtain ⟨hP9, hD9⟩ := nv_sub2 (wc := [(h0, .inr (7, [.int x1, .int x2, .int x3, .int x4, .int x5]))]) hP hD [0] (by decide) rfl
    have hK9 := hK.sub (tys' := []) [] rfl
    exact W.iret (v := x2) hx hb hr (fun t ht hW => ⟨⟨x2, (), rfl, trivial, by rw [ht]; exact hP9, va_K.moved hW.alike hK9, hD9⟩, hS.F ht⟩) hS.2.2 dX7_value_49
  · skip
    refine lv_tableIn (off := 64) (tgt := 65) hx hb dX7_value_1 (by decide) (by decide) (by decide) (by decide) ?_
    refine lv_iconst (v := 0) hx hb dX7_value_65 (by decide) ?_
    rw [hQ]
    obtain ⟨hP9, hD9⟩ := nv_sub2 (wc := [(h0, .inr (7, [.int x1, .int x2, .int x3, .int x4, .int x5]))]) hP hD [0] (by decide) rfl
    have hK9 := hK.sub (tys' := []) [] rfl
    exact W.iret (v := 0) hx hb hr (fun t ht hW => ⟨⟨0, (), rfl, trivial, by rw [ht]; exact hP9, va_K.moved hW.alike hK9, hD9⟩, hS.F ht⟩) hS.2.2 dX7_value_66
  · skip
    refine lv_tableIn (off := 49) (tgt := 50) hx hb dX7_value_1 (by decide) (by decide) (by decide) (by decide) ?_
    refine lv_aload_n hx hb dX7_value_50 rfl (lv_at hl 0 rfl) ?_
    refine va_get (D := (dC, dI)) (ci := 7) (v := .int x3) (C := RX7) (T := TX7) (N := 5) hx hb hG inGX7 hown hK hP 0 rfl rfl 2 (by decide) (hG _ wd_49) (fun _ h9 => h9) rfl dX7_value_51 ?_
    rw [hQ]
    obtain ⟨hP9, hD9⟩ := nv_sub2 (wc := [(h0, .inr (7, [.int x1, .int x2, .int x3, .int x4, .int x5]))]) hP hD [0] (by decide) rfl
    have hK9 := hK.sub (tys' := []) [] rfl
    exact W.iret (v := x3) hx hb hr (fun t ht hW => ⟨⟨x3, (), rfl, trivial, by rw [ht]; exact hP9, va_K.moved hW.alike hK9, hD9⟩, hS.F ht⟩) hS.2.2 dX7_value_54
  · skip
    refine lv_tableIn (off := 54) (tgt := 55) hx hb dX7_value_1 (by decide) (by decide) (by decide) (by decide) ?_
    refine lv_aload_n hx hb dX7_value_55 rfl (lv_at hl 0 rfl) ?_
    refine va_get (D := (dC, dI)) (ci := 7) (v := .int x4) (C := RX7) (T := TX7) (N := 5) hx hb hG inGX7 hown hK hP 0 rfl rfl 3 (by decide) (hG _ wd_50) (fun _ h9 => h9) rfl dX7_value_56 ?_
    rw [hQ]
    obtain ⟨hP9, hD9⟩ := nv_sub2 (wc := [(h0, .inr (7, [.int x1, .int x2, .int x3, .int x4, .int x5]))]) hP hD [0] (by decide) rfl
    have hK9 := hK.sub (tys' := []) [] rfl
    exact W.iret (v := x4) hx hb hr (fun t ht hW => ⟨⟨x4, (), rfl, trivial, by rw [ht]; exact hP9, va_K.moved hW.alike hK9, hD9⟩, hS.F ht⟩) hS.2.2 dX7_value_59
  · skip
    refine lv_tableIn (off := 59) (tgt := 60) hx hb dX7_value_1 (by decide) (by decide) (by decide) (by decide) ?_
    refine lv_aload_n hx hb dX7_value_60 rfl (lv_at hl 0 rfl) ?_
    refine va_get (D := (dC, dI)) (ci := 7) (v := .int x5) (C := RX7) (T := TX7) (N := 5) hx hb hG inGX7 hown hK hP 0 rfl rfl 4 (by decide) (hG _ wd_51) (fun _ h9 => h9) rfl dX7_value_61 ?_
    rw [hQ]
    obtain ⟨hP9, hD9⟩ := nv_sub2 (wc := [(h0, .inr (7, [.int x1, .int x2, .int x3, .int x4, .int x5]))]) hP hD [0] (by decide) rfl
    have hK9 := hK.sub (tys' := []) [] rfl
    exact W.iret (v := x5) hx hb hr (fun t ht hW => ⟨⟨x5, (), rfl, trivial, by rw [ht]; exact hP9, va_K.moved hW.alike hK9, hD9⟩, hS.F ht⟩) hS.2.2 dX7_value_64
set_option maxHeartbeats 100000000 in
set_option maxRecDepth 100000 in
theorem cX1_thingWord_1 (l : Launch) (dC : Nat → ClassId) (dI : Nat → Nat → Nat) (h0 h1 h2 h3 h4 h5 h6 : Nat) (y0 y1 : ClassId) (sz : Nat) (x0 x1 x2 x3 x4 x5 x6 x7 x8 x9 x10 x11 x12 x13 x14 x15 : Int32) (f0 f1 : Nat → Int32) (ix4 : iv x4 0 1) : Met l yX1_thingWord (Cond.code yX1_thingWord cX1_thingWord 2 (some .int) :: lw_G) ({ frames := 1, cells := 0, slots := 0, locals := 21 }) (va_Pc [.ref h0, .int x0] (fun U => U.heap.size = sz ∧ va_P (dC, dI) vwCl [(h0, .inr (1, [.ref h1, .ref h2, .ref h3, .ref h4])), (h4, .inr (9, [.ref h5, .ref h6, .int x1, .int x2, .int x3, .int x4])), (h6, .inl (y0, 3, .inl f0)), (h5, .inl (y1, 3, .inl f1)), (h3, .inr (5, [.int x5, .int x6, .int x7, .int x8, .int x9, .int x10])), (h2, .inr (7, [.int x11, .int x12, .int x13, .int x14, .int x15]))] U.heap ∧ va_K (dC, dI) vwCl [(y0, .int), (y1, .int)] U ∧ va_D (fun _ => True) [(h0, .inr (1, [.ref h1, .ref h2, .ref h3, .ref h4])), (h4, .inr (9, [.ref h5, .ref h6, .int x1, .int x2, .int x3, .int x4])), (h6, .inl (y0, 3, .inl f0)), (h5, .inl (y1, 3, .inl f1)), (h3, .inr (5, [.int x5, .int x6, .int x7, .int x8, .int x9, .int x10])), (h2, .inr (7, [.int x11, .int x12, .int x13, .int x14, .int x15]))])) (va_Qi (fun (r : Int32) (u : Unit) => True) (fun (u : Unit) (t : State) => va_P (dC, dI) vwCl [(h0, .inr (1, [.ref h1, .ref h2, .ref h3, .ref h4])), (h4, .inr (9, [.ref h5, .ref h6, .int x1, .int x2, .int x3, .int x4])), (h6, .inl (y0, 3, .inl f0)), (h5, .inl (y1, 3, .inl f1)), (h3, .inr (5, [.int x5, .int x6, .int x7, .int x8, .int x9, .int x10])), (h2, .inr (7, [.int x11, .int x12, .int x13, .int x14, .int x15]))] t.heap ∧ va_K (dC, dI) vwCl [(y0, .int), (y1, .int)] t ∧ va_D (va_A [(h0, .inr (1, [.ref h1, .ref h2, .ref h3, .ref h4])), (h4, .inr (9, [.ref h5, .ref h6, .int x1, .int x2, .int x3, .int x4])), (h6, .inl (y0, 3, .inl f0)), (h5, .inl (y1, 3, .inl f1)), (h3, .inr (5, [.int x5, .int x6, .int x7, .int x8, .int x9, .int x10])), (h2, .inr (7, [.int x11, .int x12, .int x13, .int x14, .int x15]))] sz) [(h0, .inr (1, [.ref h1, .ref h2, .ref h3, .ref h4])), (h4, .inr (9, [.ref h5, .ref h6, .int x1, .int x2, .int x3, .int x4])), (h6, .inl (y0, 3, .inl f0)), (h5, .inl (y1, 3, .inl f1)), (h3, .inr (5, [.int x5, .int x6, .int x7, .int x8, .int x9, .int x10])), (h2, .inr (7, [.int x11, .int x12, .int x13, .int x14, .int x15]))]) (va_A [(h0, .inr (1, [.ref h1, .ref h2, .ref h3, .ref h4])), (h4, .inr (9, [.ref h5, .ref h6, .int x1, .int x2, .int x3, .int x4])), (h6, .inl (y0, 3, .inl f0)), (h5, .inl (y1, 3, .inl f1)), (h3, .inr (5, [.int x5, .int x6, .int x7, .int x8, .int x9, .int x10])), (h2, .inr (7, [.int x11, .int x12, .int x13, .int x14, .int x15]))] sz)) 0 0 (va_A [(h0, .inr (1, [.ref h1, .ref h2, .ref h3, .ref h4])), (h4, .inr (9, [.ref h5, .ref h6, .int x1, .int x2, .int x3, .int x4])), (h6, .inl (y0, 3, .inl f0)), (h5, .inl (y1, 3, .inl f1)), (h3, .inr (5, [.int x5, .int x6, .int x7, .int x8, .int x9, .int x10])), (h2, .inr (7, [.int x11, .int x12, .int x13, .int x14, .int x15]))] sz) := by
  refine Met.ofW (cc := cX1_thingWord) (maxL := 2) (ret := (some .int)) (by decide) rfl ?_
  intro p e s m args below meth c s₁ B hml hv
  obtain ⟨rfl, hsz, hP, hK, hD0⟩ := hv
  have hx := B.exec
  have hb := B.bytes
  have hr := B.returns
  have hts0 := atoms_spec (ws := Cond.code yX1_thingWord cX1_thingWord 2 (some .int) :: lw_G) B.pre
  have hG : ∀ w ∈ lw_G, w.before _ s = true := fun w h => hts0 w (List.mem_cons_of_mem _ h)
  have hown : s.vm.findClass RX1 = some m.cls := findClass_of_methodNamed B.named
  have hlocks := B.notSynchronized
  subst hsz
  have hD := hD0.self (sz := s.heap.size)
  generalize hAe : va_A [(h0, .inr (1, [.ref h1, .ref h2, .ref h3, .ref h4])), (h4, .inr (9, [.ref h5, .ref h6, .int x1, .int x2, .int x3, .int x4])), (h6, .inl (y0, 3, .inl f0)), (h5, .inl (y1, 3, .inl f1)), (h3, .inr (5, [.int x5, .int x6, .int x7, .int x8, .int x9, .int x10])), (h2, .inr (7, [.int x11, .int x12, .int x13, .int x14, .int x15]))] s.heap.size = A at hD ⊢
  have hA : ∀ q : Nat, s.heap.size ≤ q → A q := fun q h => by rw [← hAe]; exact Or.inr h
  have hS : va_S A s.heap s.heap [] := va_S.rf
  have hP : va_P (dC, dI) vwCl [(h0, .inr (1, [.ref h1, .ref h2, .ref h3, .ref h4])), (h4, .inr (9, [.ref h5, .ref h6, .int x1, .int x2, .int x3, .int x4])), (h6, .inl (y0, 3, .inl f0)), (h5, .inl (y1, 3, .inl f1)), (h3, .inr (5, [.int x5, .int x6, .int x7, .int x8, .int x9, .int x10])), (h2, .inr (7, [.int x11, .int x12, .int x13, .int x14, .int x15]))] s.heap := hP
  have hl := lv_entry ([.ref h0, .int x0]) (n := 2) (Nat.le_of_ble_eq_true rfl)
  rw [lg_entry_eq]
  generalize (lg_sl ([.ref h0, .int x0]) ++ List.replicate (2 - (lg_sl ([.ref h0, .int x0])).length) Slot.unset).toArray = ls at hl ⊢
  have hl : lv_has ls 2 [(0, .ref h0), (1, .int x0)] := hl
  generalize ([.ref h0, .int x0] : List Value).toArray = ar at hG ⊢
  refine wq (fun Q hQ => ?_)
  refine lv_iload_n hx hb dX1_thingWord_0 rfl (lv_at hl 1 rfl) ?_
  refine lv_sipush (v := 288) hx hb dX1_thingWord_1 (by decide) ?_
  refine lv_icmp_ge (tgt := 30) hx hb dX1_thingWord_4 (by decide) (fun c1 => ?_) (fun c1 => ?_)
  · skip
    have j2 : iv x0 288 2147483647 := iv_leR (by decide : iv 288 288 288) (iv_any x0) c1 (by decide)
    refine lv_iload_n hx hb dX1_thingWord_30 rfl (lv_at hl 1 rfl) ?_
    refine lv_sipush (v := 302) hx hb dX1_thingWord_31 (by decide) ?_
    refine lv_icmp_ne (tgt := 45) hx hb dX1_thingWord_34 (by decide) (fun c3 => ?_) (fun c3 => ?_)
    · skip
      refine lv_iload_n hx hb dX1_thingWord_45 rfl (lv_at hl 1 rfl) ?_
      refine lv_sipush (v := 304) hx hb dX1_thingWord_46 (by decide) ?_
      refine lv_icmp_lt (tgt := 68) hx hb dX1_thingWord_49 (by decide) (fun c4 => ?_) (fun c4 => ?_)
      · skip
        have j5 : iv x0 288 303 := iv_ltL j2 (by decide : iv 304 304 304) c4 (by decide)
        refine lv_aload_n hx hb dX1_thingWord_68 rfl (lv_at hl 0 rfl) ?_
        refine va_get (D := (dC, dI)) (ci := 1) (v := .ref h4) (C := RX1) (T := TX1) (N := 4) hx hb hG inGX1 hown hK hP 0 rfl rfl 3 (by decide) (hG _ wd_117) (fun _ h9 => h9) rfl dX1_thingWord_69 ?_
        refine lv_iload_n hx hb dX1_thingWord_72 rfl (lv_at hl 1 rfl) ?_
        obtain ⟨hPc, hDc, hFc⟩ := nv_sub3 (wc := [(h4, .inr (9, [.ref h5, .ref h6, .int x1, .int x2, .int x3, .int x4])), (h6, .inl (y0, 3, .inl f0)), (h5, .inl (y1, 3, .inl f1))]) hP hD hS hA [1, 2, 3] (by decide) rfl
        have hKc := hK.sub (tys' := [(y0, .int), (y1, .int)]) [0, 1] rfl
        refine va_calli (va_runV (As := [.int x0]) (rest := []) ⟨hx, hb, hml, hown, hG⟩ (cX9_word_1 l dC dI h4 h5 h6 y0 y1 s.heap.size x0 x1 x2 x3 x4 f0 f1 ix4) (cwV 1 hG (gV wd_736 wd_737 wd_738 wd_5 wd_739) rfl rfl rfl (by decide +kernel) ⟨Nat.le_of_ble_eq_true rfl, Nat.le_of_ble_eq_true rfl⟩) ⟨fun a U g mk q => by obtain ⟨q0, q1, qP, qK, qD⟩ := q; exact ⟨q0, q1, qP, va_K.moved (u := U) (U := U.calling g mk a) (Vm.Alike.refl U.vm) qK, qD⟩, va_recv hKc hPc (ci := 9) (q0 := 0) rfl rfl, fun U hU hW => ⟨rfl, by rw [hU], by rw [hU]; exact hPc, va_K.moved hW.alike hKc, hDc.weaken (fun _ _ _ _ => trivial)⟩⟩ rfl rfl hl.1 rfl (lv_room (Nat.le_of_ble_eq_true rfl)) dX1_thingWord_73 ⟨by decide, by decide⟩) hS (fun q _ h => hFc q h) hFc (fun r6 u7 t H1 locs ht hvm hw hB hz1 hk1 hS => ?_)
        obtain ⟨hP1, hK1, hD1⟩ := hB
        rw [ht] at hP1
        have hK1 := va_K.moved hvm.symm hK1
        obtain ⟨hP, hD⟩ := nv_join (wf := [(h0, .inr (1, [.ref h1, .ref h2, .ref h3, .ref h4])), (h3, .inr (5, [.int x5, .int x6, .int x7, .int x8, .int x9, .int x10])), (h2, .inr (7, [.int x11, .int x12, .int x13, .int x14, .int x15])), (h4, .inr (9, [.ref h5, .ref h6, .int x1, .int x2, .int x3, .int x4])), (h6, .inl (y0, 3, .inl f0)), (h5, .inl (y1, 3, .inl f1))]) hP hD [1, 2, 3] [0, 4, 5] rfl rfl (by decide) (by decide) hk1 hFc hP1 hD1 rfl
        have hK := (hK.sub (tys' := []) [] rfl).app hK1
        generalize H1 = H at hP hS ⊢
        have hK : va_K (dC, dI) vwCl [(y0, .int), (y1, .int)] s := hK
        rw [hQ]
        obtain ⟨hP9, hD9⟩ := nv_sub2 (wc := [(h0, .inr (1, [.ref h1, .ref h2, .ref h3, .ref h4])), (h4, .inr (9, [.ref h5, .ref h6, .int x1, .int x2, .int x3, .int x4])), (h6, .inl (y0, 3, .inl f0)), (h5, .inl (y1, 3, .inl f1)), (h3, .inr (5, [.int x5, .int x6, .int x7, .int x8, .int x9, .int x10])), (h2, .inr (7, [.int x11, .int x12, .int x13, .int x14, .int x15]))]) hP hD [0, 3, 4, 5, 1, 2] (by decide) rfl
        have hK9 := hK.sub (tys' := [(y0, .int), (y1, .int)]) [0, 1] rfl
        exact W.iret (v := r6) hx hb hr (fun t ht hW => ⟨⟨r6, (), rfl, trivial, by rw [ht]; exact hP9, va_K.moved hW.alike hK9, hD9⟩, hS.F ht⟩) hS.2.2 dX1_thingWord_76
      · skip
        have j8 : iv x0 304 2147483647 := iv_nltL j2 (by decide : iv 304 304 304) c4 (by decide)
        refine lv_iload_n hx hb dX1_thingWord_52 rfl (lv_at hl 1 rfl) ?_
        refine lv_sipush (v := 318) hx hb dX1_thingWord_53 (by decide) ?_
        refine lv_icmp_gt (tgt := 68) hx hb dX1_thingWord_56 (by decide) (fun c9 => ?_) (fun c9 => ?_)
        · skip
          have j10 : iv x0 319 2147483647 := iv_ltR (by decide : iv 318 318 318) j8 c9 (by decide)
          refine lv_aload_n hx hb dX1_thingWord_68 rfl (lv_at hl 0 rfl) ?_
          refine va_get (D := (dC, dI)) (ci := 1) (v := .ref h4) (C := RX1) (T := TX1) (N := 4) hx hb hG inGX1 hown hK hP 0 rfl rfl 3 (by decide) (hG _ wd_117) (fun _ h9 => h9) rfl dX1_thingWord_69 ?_
          refine lv_iload_n hx hb dX1_thingWord_72 rfl (lv_at hl 1 rfl) ?_
          obtain ⟨hPc, hDc, hFc⟩ := nv_sub3 (wc := [(h4, .inr (9, [.ref h5, .ref h6, .int x1, .int x2, .int x3, .int x4])), (h6, .inl (y0, 3, .inl f0)), (h5, .inl (y1, 3, .inl f1))]) hP hD hS hA [1, 2, 3] (by decide) rfl
          have hKc := hK.sub (tys' := [(y0, .int), (y1, .int)]) [0, 1] rfl
          refine va_calli (va_runV (As := [.int x0]) (rest := []) ⟨hx, hb, hml, hown, hG⟩ (cX9_word_1 l dC dI h4 h5 h6 y0 y1 s.heap.size x0 x1 x2 x3 x4 f0 f1 ix4) (cwV 1 hG (gV wd_736 wd_737 wd_738 wd_5 wd_739) rfl rfl rfl (by decide +kernel) ⟨Nat.le_of_ble_eq_true rfl, Nat.le_of_ble_eq_true rfl⟩) ⟨fun a U g mk q => by obtain ⟨q0, q1, qP, qK, qD⟩ := q; exact ⟨q0, q1, qP, va_K.moved (u := U) (U := U.calling g mk a) (Vm.Alike.refl U.vm) qK, qD⟩, va_recv hKc hPc (ci := 9) (q0 := 0) rfl rfl, fun U hU hW => ⟨rfl, by rw [hU], by rw [hU]; exact hPc, va_K.moved hW.alike hKc, hDc.weaken (fun _ _ _ _ => trivial)⟩⟩ rfl rfl hl.1 rfl (lv_room (Nat.le_of_ble_eq_true rfl)) dX1_thingWord_73 ⟨by decide, by decide⟩) hS (fun q _ h => hFc q h) hFc (fun r11 u12 t H1 locs ht hvm hw hB hz1 hk1 hS => ?_)
          obtain ⟨hP1, hK1, hD1⟩ := hB
          rw [ht] at hP1
          have hK1 := va_K.moved hvm.symm hK1
          obtain ⟨hP, hD⟩ := nv_join (wf := [(h0, .inr (1, [.ref h1, .ref h2, .ref h3, .ref h4])), (h3, .inr (5, [.int x5, .int x6, .int x7, .int x8, .int x9, .int x10])), (h2, .inr (7, [.int x11, .int x12, .int x13, .int x14, .int x15])), (h4, .inr (9, [.ref h5, .ref h6, .int x1, .int x2, .int x3, .int x4])), (h6, .inl (y0, 3, .inl f0)), (h5, .inl (y1, 3, .inl f1))]) hP hD [1, 2, 3] [0, 4, 5] rfl rfl (by decide) (by decide) hk1 hFc hP1 hD1 rfl
          have hK := (hK.sub (tys' := []) [] rfl).app hK1
          generalize H1 = H at hP hS ⊢
          have hK : va_K (dC, dI) vwCl [(y0, .int), (y1, .int)] s := hK
          rw [hQ]
          obtain ⟨hP9, hD9⟩ := nv_sub2 (wc := [(h0, .inr (1, [.ref h1, .ref h2, .ref h3, .ref h4])), (h4, .inr (9, [.ref h5, .ref h6, .int x1, .int x2, .int x3, .int x4])), (h6, .inl (y0, 3, .inl f0)), (h5, .inl (y1, 3, .inl f1)), (h3, .inr (5, [.int x5, .int x6, .int x7, .int x8, .int x9, .int x10])), (h2, .inr (7, [.int x11, .int x12, .int x13, .int x14, .int x15]))]) hP hD [0, 3, 4, 5, 1, 2] (by decide) rfl
          have hK9 := hK.sub (tys' := [(y0, .int), (y1, .int)]) [0, 1] rfl
          exact W.iret (v := r11) hx hb hr (fun t ht hW => ⟨⟨r11, (), rfl, trivial, by rw [ht]; exact hP9, va_K.moved hW.alike hK9, hD9⟩, hS.F ht⟩) hS.2.2 dX1_thingWord_76
        · skip
          have j13 : iv x0 304 318 := iv_nltR (by decide : iv 318 318 318) j8 c9 (by decide)
          refine lv_aload_n hx hb dX1_thingWord_59 rfl (lv_at hl 0 rfl) ?_
          refine va_get (D := (dC, dI)) (ci := 1) (v := .ref h3) (C := RX1) (T := TX1) (N := 4) hx hb hG inGX1 hown hK hP 0 rfl rfl 2 (by decide) (hG _ wd_116) (fun _ h9 => h9) rfl dX1_thingWord_60 ?_
          refine lv_iload_n hx hb dX1_thingWord_63 rfl (lv_at hl 1 rfl) ?_
          obtain ⟨hPc, hDc, hFc⟩ := nv_sub3 (wc := [(h3, .inr (5, [.int x5, .int x6, .int x7, .int x8, .int x9, .int x10]))]) hP hD hS hA [4] (by decide) rfl
          have hKc := hK.sub (tys' := []) [] rfl
          refine va_calli (va_runV (As := [.int x0]) (rest := []) ⟨hx, hb, hml, hown, hG⟩ (cX5_word_1 l dC dI h3 s.heap.size x0 x5 x6 x7 x8 x9 x10) (cwV 1 hG (gV wd_732 wd_733 wd_734 wd_4 wd_735) rfl rfl rfl (by decide +kernel) ⟨Nat.le_of_ble_eq_true rfl, Nat.le_of_ble_eq_true rfl⟩) ⟨fun a U g mk q => by obtain ⟨q0, q1, qP, qK, qD⟩ := q; exact ⟨q0, q1, qP, va_K.moved (u := U) (U := U.calling g mk a) (Vm.Alike.refl U.vm) qK, qD⟩, va_recv hKc hPc (ci := 5) (q0 := 0) rfl rfl, fun U hU hW => ⟨rfl, by rw [hU], by rw [hU]; exact hPc, va_K.moved hW.alike hKc, hDc.weaken (fun _ _ _ _ => trivial)⟩⟩ rfl rfl hl.1 rfl (lv_room (Nat.le_of_ble_eq_true rfl)) dX1_thingWord_64 ⟨by decide, by decide⟩) hS (fun q _ h => hFc q h) hFc (fun r14 u15 t H1 locs ht hvm hw hB hz1 hk1 hS => ?_)
          obtain ⟨hP1, hK1, hD1⟩ := hB
          rw [ht] at hP1
          have hK1 := va_K.moved hvm.symm hK1
          obtain ⟨hP, hD⟩ := nv_join (wf := [(h0, .inr (1, [.ref h1, .ref h2, .ref h3, .ref h4])), (h4, .inr (9, [.ref h5, .ref h6, .int x1, .int x2, .int x3, .int x4])), (h6, .inl (y0, 3, .inl f0)), (h5, .inl (y1, 3, .inl f1)), (h2, .inr (7, [.int x11, .int x12, .int x13, .int x14, .int x15])), (h3, .inr (5, [.int x5, .int x6, .int x7, .int x8, .int x9, .int x10]))]) hP hD [4] [0, 1, 2, 3, 5] rfl rfl (by decide) (by decide) hk1 hFc hP1 hD1 rfl
          have hK := (hK.sub (tys' := [(y0, .int), (y1, .int)]) [0, 1] rfl).app hK1
          generalize H1 = H at hP hS ⊢
          have hK : va_K (dC, dI) vwCl [(y0, .int), (y1, .int)] s := hK
          rw [hQ]
          obtain ⟨hP9, hD9⟩ := nv_sub2 (wc := [(h0, .inr (1, [.ref h1, .ref h2, .ref h3, .ref h4])), (h4, .inr (9, [.ref h5, .ref h6, .int x1, .int x2, .int x3, .int x4])), (h6, .inl (y0, 3, .inl f0)), (h5, .inl (y1, 3, .inl f1)), (h3, .inr (5, [.int x5, .int x6, .int x7, .int x8, .int x9, .int x10])), (h2, .inr (7, [.int x11, .int x12, .int x13, .int x14, .int x15]))]) hP hD [0, 1, 2, 3, 5, 4] (by decide) rfl
          have hK9 := hK.sub (tys' := [(y0, .int), (y1, .int)]) [0, 1] rfl
          exact W.iret (v := r14) hx hb hr (fun t ht hW => ⟨⟨r14, (), rfl, trivial, by rw [ht]; exact hP9, va_K.moved hW.alike hK9, hD9⟩, hS.F ht⟩) hS.2.2 dX1_thingWord_67
    · skip
      subst c3
      refine lv_aload_n hx hb dX1_thingWord_37 rfl (lv_at hl 0 rfl) ?_
      refine va_get (D := (dC, dI)) (ci := 1) (v := .ref h4) (C := RX1) (T := TX1) (N := 4) hx hb hG inGX1 hown hK hP 0 rfl rfl 3 (by decide) (hG _ wd_117) (fun _ h9 => h9) rfl dX1_thingWord_38 ?_
      obtain ⟨hPc, hDc, hFc⟩ := nv_sub3 (wc := [(h4, .inr (9, [.ref h5, .ref h6, .int x1, .int x2, .int x3, .int x4])), (h5, .inl (y1, 3, .inl f1))]) hP hD hS hA [1, 3] (by decide) rfl
      have hKc := hK.sub (tys' := [(y1, .int)]) [1] rfl
      refine va_calli (va_runV (As := []) (rest := []) ⟨hx, hb, hml, hown, hG⟩ (cX9_vector_1 l dC dI h4 h5 h6 y1 s.heap.size x1 x2 x3 x4 f1 ix4) (cwV 0 hG (gV wd_728 wd_729 wd_730 wd_5 wd_731) rfl rfl rfl (by decide +kernel) ⟨Nat.le_of_ble_eq_true rfl, Nat.le_of_ble_eq_true rfl⟩) ⟨fun a U g mk q => by obtain ⟨q0, q1, qP, qK, qD⟩ := q; exact ⟨q0, q1, qP, va_K.moved (u := U) (U := U.calling g mk a) (Vm.Alike.refl U.vm) qK, qD⟩, va_recv hKc hPc (ci := 9) (q0 := 0) rfl rfl, fun U hU hW => ⟨rfl, by rw [hU], by rw [hU]; exact hPc, va_K.moved hW.alike hKc, hDc.weaken (fun _ _ _ _ => trivial)⟩⟩ rfl rfl hl.1 rfl (lv_room (Nat.le_of_ble_eq_true rfl)) dX1_thingWord_41 ⟨by decide, by decide⟩) hS (fun q _ h => hFc q h) hFc (fun r16 u17 t H1 locs ht hvm hw hB hz1 hk1 hS => ?_)
      have hw : iv r16 0 10 ∧ True := hw
      obtain ⟨ir16, -⟩ := hw
      obtain ⟨hP1, hK1, hD1⟩ := hB
      rw [ht] at hP1
      have hK1 := va_K.moved hvm.symm hK1
      obtain ⟨hP, hD⟩ := nv_join (wf := [(h0, .inr (1, [.ref h1, .ref h2, .ref h3, .ref h4])), (h6, .inl (y0, 3, .inl f0)), (h3, .inr (5, [.int x5, .int x6, .int x7, .int x8, .int x9, .int x10])), (h2, .inr (7, [.int x11, .int x12, .int x13, .int x14, .int x15])), (h4, .inr (9, [.ref h5, .ref h6, .int x1, .int x2, .int x3, .int x4])), (h5, .inl (y1, 3, .inl f1))]) hP hD [1, 3] [0, 2, 4, 5] rfl rfl (by decide) (by decide) hk1 hFc hP1 hD1 rfl
      have hK := (hK.sub (tys' := [(y0, .int)]) [0] rfl).app hK1
      generalize H1 = H at hP hS ⊢
      have hK : va_K (dC, dI) vwCl [(y0, .int), (y1, .int)] s := hK
      rw [hQ]
      obtain ⟨hP9, hD9⟩ := nv_sub2 (wc := [(h0, .inr (1, [.ref h1, .ref h2, .ref h3, .ref h4])), (h4, .inr (9, [.ref h5, .ref h6, .int x1, .int x2, .int x3, .int x4])), (h6, .inl (y0, 3, .inl f0)), (h5, .inl (y1, 3, .inl f1)), (h3, .inr (5, [.int x5, .int x6, .int x7, .int x8, .int x9, .int x10])), (h2, .inr (7, [.int x11, .int x12, .int x13, .int x14, .int x15]))]) hP hD [0, 4, 1, 5, 2, 3] (by decide) rfl
      have hK9 := hK.sub (tys' := [(y0, .int), (y1, .int)]) [0, 1] rfl
      exact W.iret (v := r16) hx hb hr (fun t ht hW => ⟨⟨r16, (), rfl, trivial, by rw [ht]; exact hP9, va_K.moved hW.alike hK9, hD9⟩, hS.F ht⟩) hS.2.2 dX1_thingWord_44
  · skip
    have j18 : iv x0 (-2147483648) 287 := iv_nleR (by decide : iv 288 288 288) (iv_any x0) c1 (by decide)
    refine lv_aload_n hx hb dX1_thingWord_7 rfl (lv_at hl 0 rfl) ?_
    refine va_get (D := (dC, dI)) (ci := 1) (v := .ref h2) (C := RX1) (T := TX1) (N := 4) hx hb hG inGX1 hown hK hP 0 rfl rfl 1 (by decide) (hG _ wd_115) (fun _ h9 => h9) rfl dX1_thingWord_8 ?_
    refine lv_iload_n hx hb dX1_thingWord_11 rfl (lv_at hl 1 rfl) ?_
    obtain ⟨hPc, hDc, hFc⟩ := nv_sub3 (wc := [(h2, .inr (7, [.int x11, .int x12, .int x13, .int x14, .int x15]))]) hP hD hS hA [5] (by decide) rfl
    have hKc := hK.sub (tys' := []) [] rfl
    refine va_calli (va_runV (As := [.int x0]) (rest := []) ⟨hx, hb, hml, hown, hG⟩ (cX7_value_1 l dC dI h2 s.heap.size x0 x11 x12 x13 x14 x15) (cwV 1 hG (gV wd_724 wd_725 wd_726 wd_3 wd_727) rfl rfl rfl (by decide +kernel) ⟨Nat.le_of_ble_eq_true rfl, Nat.le_of_ble_eq_true rfl⟩) ⟨fun a U g mk q => by obtain ⟨q0, q1, qP, qK, qD⟩ := q; exact ⟨q0, q1, qP, va_K.moved (u := U) (U := U.calling g mk a) (Vm.Alike.refl U.vm) qK, qD⟩, va_recv hKc hPc (ci := 7) (q0 := 0) rfl rfl, fun U hU hW => ⟨rfl, by rw [hU], by rw [hU]; exact hPc, va_K.moved hW.alike hKc, hDc.weaken (fun _ _ _ _ => trivial)⟩⟩ rfl rfl hl.1 rfl (lv_room (Nat.le_of_ble_eq_true rfl)) dX1_thingWord_12 ⟨by decide, by decide⟩) hS (fun q _ h => hFc q h) hFc (fun r19 u20 t H1 locs ht hvm hw hB hz1 hk1 hS => ?_)
    obtain ⟨hP1, hK1, hD1⟩ := hB
    rw [ht] at hP1
    have hK1 := va_K.moved hvm.symm hK1
    obtain ⟨hP, hD⟩ := nv_join (wf := [(h0, .inr (1, [.ref h1, .ref h2, .ref h3, .ref h4])), (h4, .inr (9, [.ref h5, .ref h6, .int x1, .int x2, .int x3, .int x4])), (h6, .inl (y0, 3, .inl f0)), (h5, .inl (y1, 3, .inl f1)), (h3, .inr (5, [.int x5, .int x6, .int x7, .int x8, .int x9, .int x10])), (h2, .inr (7, [.int x11, .int x12, .int x13, .int x14, .int x15]))]) hP hD [5] [0, 1, 2, 3, 4] rfl rfl (by decide) (by decide) hk1 hFc hP1 hD1 rfl
    have hK := (hK.sub (tys' := [(y0, .int), (y1, .int)]) [0, 1] rfl).app hK1
    generalize H1 = H at hP hS ⊢
    have hK : va_K (dC, dI) vwCl [(y0, .int), (y1, .int)] s := hK
    refine lv_aload_n hx hb dX1_thingWord_15 rfl (lv_at hl 0 rfl) ?_
    refine va_get (D := (dC, dI)) (ci := 1) (v := .ref h2) (C := RX1) (T := TX1) (N := 4) hx hb hG inGX1 hown hK hP 0 rfl rfl 1 (by decide) (hG _ wd_115) (fun _ h9 => h9) rfl dX1_thingWord_16 ?_
    refine lv_iload_n hx hb dX1_thingWord_19 rfl (lv_at hl 1 rfl) ?_
    refine lv_iconst (v := 1) hx hb dX1_thingWord_20 (by decide) ?_
    refine lv_iadd hx hb dX1_thingWord_21 ?_
    refine lv_topi (fun v21 ev21 => ?_)
    have iv21 : iv v21 (-2147483647) 288 := iv_eq ev21 (iv_add j18 (by decide : iv 1 1 1) (by decide) (by decide))
    have tv21 : v21.toInt = x0.toInt + 1 := iv_addT ev21 j18 (by decide) (by decide) (by decide)
    obtain ⟨hPc, hDc, hFc⟩ := nv_sub3 (wc := [(h2, .inr (7, [.int x11, .int x12, .int x13, .int x14, .int x15]))]) hP hD hS hA [5] (by decide) rfl
    have hKc := hK.sub (tys' := []) [] rfl
    refine va_calli (va_runV (As := [.int v21]) (rest := [.int r19]) ⟨hx, hb, hml, hown, hG⟩ (cX7_value_1 l dC dI h2 H.size v21 x11 x12 x13 x14 x15) (cwV 1 hG (gV wd_724 wd_725 wd_726 wd_3 wd_727) rfl rfl rfl (by decide +kernel) ⟨Nat.le_of_ble_eq_true rfl, Nat.le_of_ble_eq_true rfl⟩) ⟨fun a U g mk q => by obtain ⟨q0, q1, qP, qK, qD⟩ := q; exact ⟨q0, q1, qP, va_K.moved (u := U) (U := U.calling g mk a) (Vm.Alike.refl U.vm) qK, qD⟩, va_recv hKc hPc (ci := 7) (q0 := 0) rfl rfl, fun U hU hW => ⟨rfl, by rw [hU], by rw [hU]; exact hPc, va_K.moved hW.alike hKc, hDc.weaken (fun _ _ _ _ => trivial)⟩⟩ rfl rfl hl.1 rfl (lv_room (Nat.le_of_ble_eq_true rfl)) dX1_thingWord_22 ⟨by decide, by decide⟩) hS (fun q _ h => hFc q h) hFc (fun r22 u23 t H1 locs ht hvm hw hB hz1 hk1 hS => ?_)
    obtain ⟨hP1, hK1, hD1⟩ := hB
    rw [ht] at hP1
    have hK1 := va_K.moved hvm.symm hK1
    obtain ⟨hP, hD⟩ := nv_join (wf := [(h0, .inr (1, [.ref h1, .ref h2, .ref h3, .ref h4])), (h4, .inr (9, [.ref h5, .ref h6, .int x1, .int x2, .int x3, .int x4])), (h6, .inl (y0, 3, .inl f0)), (h5, .inl (y1, 3, .inl f1)), (h3, .inr (5, [.int x5, .int x6, .int x7, .int x8, .int x9, .int x10])), (h2, .inr (7, [.int x11, .int x12, .int x13, .int x14, .int x15]))]) hP hD [5] [0, 1, 2, 3, 4] rfl rfl (by decide) (by decide) hk1 hFc hP1 hD1 rfl
    have hK := (hK.sub (tys' := [(y0, .int), (y1, .int)]) [0, 1] rfl).app hK1
    generalize H1 = H at hP hS ⊢
    have hK : va_K (dC, dI) vwCl [(y0, .int), (y1, .int)] s := hK
    refine lv_bipush (v := 8) hx hb dX1_thingWord_25 (by decide) ?_
    refine lv_ishl hx hb dX1_thingWord_27 ?_
    refine lv_topi (fun v24 ev24 => ?_)
    refine lv_ior hx hb dX1_thingWord_28 ?_
    refine lv_topi (fun v25 ev25 => ?_)
    rw [hQ]
    obtain ⟨hP9, hD9⟩ := nv_sub2 (wc := [(h0, .inr (1, [.ref h1, .ref h2, .ref h3, .ref h4])), (h4, .inr (9, [.ref h5, .ref h6, .int x1, .int x2, .int x3, .int x4])), (h6, .inl (y0, 3, .inl f0)), (h5, .inl (y1, 3, .inl f1)), (h3, .inr (5, [.int x5, .int x6, .int x7, .int x8, .int x9, .int x10])), (h2, .inr (7, [.int x11, .int x12, .int x13, .int x14, .int x15]))]) hP hD [0, 1, 2, 3, 4, 5] (by decide) rfl
    have hK9 := hK.sub (tys' := [(y0, .int), (y1, .int)]) [0, 1] rfl
    exact W.iret (v := v25) hx hb hr (fun t ht hW => ⟨⟨v25, (), rfl, trivial, by rw [ht]; exact hP9, va_K.moved hW.alike hK9, hD9⟩, hS.F ht⟩) hS.2.2 dX1_thingWord_29
set_option maxHeartbeats 100000000 in
set_option maxRecDepth 100000 in
theorem cX9_startAnew_1 (l : Launch) (dC : Nat → ClassId) (dI : Nat → Nat → Nat) (h0 h1 h2 : Nat) (sz : Nat) (x0 x1 x2 x3 : Int32) (ix3 : iv x3 0 1) : Met l yX9_startAnew (Cond.code yX9_startAnew cX9_startAnew 1 none :: lw_G) ({ frames := 0, cells := 0, slots := 0, locals := 0 }) (va_Pc [.ref h0] (fun U => U.heap.size = sz ∧ va_P (dC, dI) vwCl [(h0, .inr (9, [.ref h1, .ref h2, .int x0, .int x1, .int x2, .int x3]))] U.heap ∧ va_K (dC, dI) vwCl [] U ∧ va_D (fun _ => True) [(h0, .inr (9, [.ref h1, .ref h2, .int x0, .int x1, .int x2, .int x3]))])) (va_Qv (fun (u : Unit) => True) (fun (u : Unit) (t : State) => va_P (dC, dI) vwCl [(h0, .inr (9, [.ref h1, .ref h2, .int x0, .int 0, .int 0, .int 0]))] t.heap ∧ va_K (dC, dI) vwCl [] t ∧ va_D (va_A [(h0, .inr (9, [.ref h1, .ref h2, .int x0, .int x1, .int x2, .int x3]))] sz) [(h0, .inr (9, [.ref h1, .ref h2, .int x0, .int 0, .int 0, .int 0]))]) (va_A [(h0, .inr (9, [.ref h1, .ref h2, .int x0, .int x1, .int x2, .int x3]))] sz)) 0 0 (va_A [(h0, .inr (9, [.ref h1, .ref h2, .int x0, .int x1, .int x2, .int x3]))] sz) := by
  refine Met.ofW (cc := cX9_startAnew) (maxL := 1) (ret := none) (by decide) rfl ?_
  intro p e s m args below meth c s₁ B hml hv
  obtain ⟨rfl, hsz, hP, hK, hD0⟩ := hv
  have hx := B.exec
  have hb := B.bytes
  have hr := B.returns
  have hts0 := atoms_spec (ws := Cond.code yX9_startAnew cX9_startAnew 1 none :: lw_G) B.pre
  have hG : ∀ w ∈ lw_G, w.before _ s = true := fun w h => hts0 w (List.mem_cons_of_mem _ h)
  have hown : s.vm.findClass RX9 = some m.cls := findClass_of_methodNamed B.named
  have hlocks := B.notSynchronized
  subst hsz
  have hD := hD0.self (sz := s.heap.size)
  generalize hAe : va_A [(h0, .inr (9, [.ref h1, .ref h2, .int x0, .int x1, .int x2, .int x3]))] s.heap.size = A at hD ⊢
  have hA : ∀ q : Nat, s.heap.size ≤ q → A q := fun q h => by rw [← hAe]; exact Or.inr h
  have hS : va_S A s.heap s.heap [] := va_S.rf
  have hP : va_P (dC, dI) vwCl [(h0, .inr (9, [.ref h1, .ref h2, .int x0, .int x1, .int x2, .int x3]))] s.heap := hP
  have hl := lv_entry ([.ref h0]) (n := 1) (Nat.le_of_ble_eq_true rfl)
  rw [lg_entry_eq]
  generalize (lg_sl ([.ref h0]) ++ List.replicate (1 - (lg_sl ([.ref h0])).length) Slot.unset).toArray = ls at hl ⊢
  have hl : lv_has ls 1 [(0, .ref h0)] := hl
  generalize ([.ref h0] : List Value).toArray = ar at hG ⊢
  refine wq (fun Q hQ => ?_)
  refine lv_aload_n hx hb dX9_startAnew_0 rfl (lv_at hl 0 rfl) ?_
  refine lv_iconst (v := 0) hx hb dX9_startAnew_1 (by decide) ?_
  refine va_put (D := (dC, dI)) (ci := 9) (v := .int 0) (ty := .int) (C := RX9) (T := TX9) (N := 6) hx hb hG inGX9 tyX9 tyX9_ok nmX9 hown hK hP hD hS 0 rfl rfl 3 (by decide) (hG _ wd_98) (fun _ h9 => h9) rfl (by decide +kernel) rfl rfl (Nat.le_of_ble_eq_true rfl) dX9_startAnew_2 (fun H locs hP hD hS => ?_)
  obtain ⟨hP, hD⟩ := nv_eq (ws' := [(h0, .inr (9, [.ref h1, .ref h2, .int x0, .int 0, .int x2, .int x3]))]) hP hD rfl
  refine lv_aload_n hx hb dX9_startAnew_5 rfl (lv_at hl 0 rfl) ?_
  refine lv_iconst (v := 0) hx hb dX9_startAnew_6 (by decide) ?_
  refine va_put (D := (dC, dI)) (ci := 9) (v := .int 0) (ty := .int) (C := RX9) (T := TX9) (N := 6) hx hb hG inGX9 tyX9 tyX9_ok nmX9 hown hK hP hD hS 0 rfl rfl 4 (by decide) (hG _ wd_99) (fun _ h9 => h9) rfl (by decide +kernel) rfl rfl (Nat.le_of_ble_eq_true rfl) dX9_startAnew_7 (fun H locs hP hD hS => ?_)
  obtain ⟨hP, hD⟩ := nv_eq (ws' := [(h0, .inr (9, [.ref h1, .ref h2, .int x0, .int 0, .int 0, .int x3]))]) hP hD rfl
  refine lv_aload_n hx hb dX9_startAnew_10 rfl (lv_at hl 0 rfl) ?_
  refine lv_iconst (v := 0) hx hb dX9_startAnew_11 (by decide) ?_
  refine va_put (D := (dC, dI)) (ci := 9) (v := .int 0) (ty := .boolean) (C := RX9) (T := TX9) (N := 6) hx hb hG inGX9 tyX9 tyX9_ok nmX9 hown hK hP hD hS 0 rfl rfl 5 (by decide) (hG _ wd_100) (fun _ h9 => h9) rfl (by decide +kernel) rfl rfl (Nat.le_of_ble_eq_true rfl) dX9_startAnew_12 (fun H locs hP hD hS => ?_)
  obtain ⟨hP, hD⟩ := nv_eq (ws' := [(h0, .inr (9, [.ref h1, .ref h2, .int x0, .int 0, .int 0, .int 0]))]) hP hD rfl
  rw [hQ]
  obtain ⟨hP9, hD9⟩ := nv_sub2 (wc := [(h0, .inr (9, [.ref h1, .ref h2, .int x0, .int 0, .int 0, .int 0]))]) hP hD [0] (by decide) rfl
  have hK9 := hK.sub (tys' := []) [] rfl
  exact W.vret hx hb hr (fun t ht hW => ⟨⟨(), rfl, trivial, by rw [ht]; exact hP9, va_K.moved hW.alike hK9, hD9⟩, hS.F ht⟩) hS.2.2 dX9_startAnew_15
set_option maxHeartbeats 100000000 in
set_option maxRecDepth 100000 in
theorem cX9_writeWord_1 (l : Launch) (dC : Nat → ClassId) (dI : Nat → Nat → Nat) (h0 h1 h2 : Nat) (y0 y1 : ClassId) (sz : Nat) (x0 x1 x2 x3 x4 x5 : Int32) (f0 f1 : Nat → Int32) (ix5 : iv x5 0 1) : Met l yX9_writeWord (Cond.code yX9_writeWord cX9_writeWord 3 none :: lw_G) ({ frames := 1, cells := 0, slots := 0, locals := 20 }) (va_Pc [.ref h0, .int x0, .int x1] (fun U => U.heap.size = sz ∧ va_P (dC, dI) vwCl [(h0, .inr (9, [.ref h1, .ref h2, .int x2, .int x3, .int x4, .int x5])), (h2, .inl (y0, 3, .inl f0)), (h1, .inl (y1, 3, .inl f1))] U.heap ∧ va_K (dC, dI) vwCl [(y0, .int), (y1, .int)] U ∧ va_D (fun _ => True) [(h0, .inr (9, [.ref h1, .ref h2, .int x2, .int x3, .int x4, .int x5])), (h2, .inl (y0, 3, .inl f0)), (h1, .inl (y1, 3, .inl f1))])) (va_Qv (fun (u : Int32 × Int32 × Int32 × Int32 × (Nat → Int32) × (Nat → Int32)) => iv u.2.2.2.1 0 1 ∧ True) (fun (u : Int32 × Int32 × Int32 × Int32 × (Nat → Int32) × (Nat → Int32)) (t : State) => va_P (dC, dI) vwCl [(h0, .inr (9, [.ref h1, .ref h2, .int u.1, .int u.2.1, .int u.2.2.1, .int u.2.2.2.1])), (h2, .inl (y0, 3, .inl u.2.2.2.2.1)), (h1, .inl (y1, 3, .inl u.2.2.2.2.2))] t.heap ∧ va_K (dC, dI) vwCl [(y0, .int), (y1, .int)] t ∧ va_D (va_A [(h0, .inr (9, [.ref h1, .ref h2, .int x2, .int x3, .int x4, .int x5])), (h2, .inl (y0, 3, .inl f0)), (h1, .inl (y1, 3, .inl f1))] sz) [(h0, .inr (9, [.ref h1, .ref h2, .int u.1, .int u.2.1, .int u.2.2.1, .int u.2.2.2.1])), (h2, .inl (y0, 3, .inl u.2.2.2.2.1)), (h1, .inl (y1, 3, .inl u.2.2.2.2.2))]) (va_A [(h0, .inr (9, [.ref h1, .ref h2, .int x2, .int x3, .int x4, .int x5])), (h2, .inl (y0, 3, .inl f0)), (h1, .inl (y1, 3, .inl f1))] sz)) 0 0 (va_A [(h0, .inr (9, [.ref h1, .ref h2, .int x2, .int x3, .int x4, .int x5])), (h2, .inl (y0, 3, .inl f0)), (h1, .inl (y1, 3, .inl f1))] sz) := by
  refine Met.ofW (cc := cX9_writeWord) (maxL := 3) (ret := none) (by decide) rfl ?_
  intro p e s m args below meth c s₁ B hml hv
  obtain ⟨rfl, hsz, hP, hK, hD0⟩ := hv
  have hx := B.exec
  have hb := B.bytes
  have hr := B.returns
  have hts0 := atoms_spec (ws := Cond.code yX9_writeWord cX9_writeWord 3 none :: lw_G) B.pre
  have hG : ∀ w ∈ lw_G, w.before _ s = true := fun w h => hts0 w (List.mem_cons_of_mem _ h)
  have hown : s.vm.findClass RX9 = some m.cls := findClass_of_methodNamed B.named
  have hlocks := B.notSynchronized
  subst hsz
  have hD := hD0.self (sz := s.heap.size)
  generalize hAe : va_A [(h0, .inr (9, [.ref h1, .ref h2, .int x2, .int x3, .int x4, .int x5])), (h2, .inl (y0, 3, .inl f0)), (h1, .inl (y1, 3, .inl f1))] s.heap.size = A at hD ⊢
  have hA : ∀ q : Nat, s.heap.size ≤ q → A q := fun q h => by rw [← hAe]; exact Or.inr h
  have hS : va_S A s.heap s.heap [] := va_S.rf
  have hP : va_P (dC, dI) vwCl [(h0, .inr (9, [.ref h1, .ref h2, .int x2, .int x3, .int x4, .int x5])), (h2, .inl (y0, 3, .inl f0)), (h1, .inl (y1, 3, .inl f1))] s.heap := hP
  have hl := lv_entry ([.ref h0, .int x0, .int x1]) (n := 3) (Nat.le_of_ble_eq_true rfl)
  rw [lg_entry_eq]
  generalize (lg_sl ([.ref h0, .int x0, .int x1]) ++ List.replicate (3 - (lg_sl ([.ref h0, .int x0, .int x1])).length) Slot.unset).toArray = ls at hl ⊢
  have hl : lv_has ls 3 [(0, .ref h0), (1, .int x0), (2, .int x1)] := hl
  generalize ([.ref h0, .int x0, .int x1] : List Value).toArray = ar at hG ⊢
  refine wq (fun Q hQ => ?_)
  refine lv_iload_n hx hb dX9_writeWord_0 rfl (lv_at hl 1 rfl) ?_
  refine lv_sipush (v := 352) hx hb dX9_writeWord_1 (by decide) ?_
  refine jcut (a := ∀ (b28 : Int32) (b29 : Int32) (b30 : Int32) (b31 : Int32) (b32 : Nat → Int32) (b33 : Nat → Int32) (ib31 : iv b31 0 1) (H : Heap) (locs : List Loc) (hK : va_K (dC, dI) vwCl [(y0, .int), (y1, .int)] s) (hP : va_P (dC, dI) vwCl [(h0, .inr (9, [.ref h1, .ref h2, .int b28, .int b29, .int b30, .int b31])), (h2, .inl (y0, 3, .inl b32)), (h1, .inl (y1, 3, .inl b33))] H) (hD : va_D A [(h0, .inr (9, [.ref h1, .ref h2, .int b28, .int b29, .int b30, .int b31])), (h2, .inl (y0, 3, .inl b32)), (h1, .inl (y1, 3, .inl b33))]) (hS : va_S A s.heap H locs) (ls : Array Slot) (hl : lv_has ls 3 []), W p l e (headSpec (Cond.code yX9_writeWord cX9_writeWord 3 none :: lw_G) ({ frames := 1, cells := 0, slots := 0, locals := 20 })).room s m ar below meth c H locs 0 0 Q (F0 m 103 ls [])) ?_ (fun j34 => ?_)
  · skip
    intro b28 b29 b30 b31 b32 b33 ib31 H locs hK hP hD hS ls hl
    rw [hQ]
    obtain ⟨hP9, hD9⟩ := nv_sub2 (wc := [(h0, .inr (9, [.ref h1, .ref h2, .int b28, .int b29, .int b30, .int b31])), (h2, .inl (y0, 3, .inl b32)), (h1, .inl (y1, 3, .inl b33))]) hP hD [0, 1, 2] (by decide) rfl
    have hK9 := hK.sub (tys' := [(y0, .int), (y1, .int)]) [0, 1] rfl
    exact W.vret hx hb hr (fun t ht hW => ⟨⟨(b28, b29, b30, b31, b32, b33), rfl, ⟨iv_w ib31 (by decide) (by decide), trivial⟩, by rw [ht]; exact hP9, va_K.moved hW.alike hK9, hD9⟩, hS.F ht⟩) hS.2.2 dX9_writeWord_103
  refine lv_icmp_ne (tgt := 28) hx hb dX9_writeWord_4 (by decide) (fun c1 => ?_) (fun c1 => ?_)
  · skip
    refine lv_iload_n hx hb dX9_writeWord_28 rfl (lv_at hl 1 rfl) ?_
    refine lv_sipush (v := 354) hx hb dX9_writeWord_29 (by decide) ?_
    refine lv_icmp_lt (tgt := 61) hx hb dX9_writeWord_32 (by decide) (fun c35 => ?_) (fun c35 => ?_)
    · skip
      have j36 : iv x0 (-2147483648) 353 := iv_ltL (iv_any x0) (by decide : iv 354 354 354) c35 (by decide)
      refine lv_iload_n hx hb dX9_writeWord_61 rfl (lv_at hl 1 rfl) ?_
      refine lv_sipush (v := 368) hx hb dX9_writeWord_62 (by decide) ?_
      refine lv_icmp_ne (tgt := 76) hx hb dX9_writeWord_65 (by decide) (fun _ => ?_) (fun c => absurd c (iv_ne j36 (by decide : iv 368 368 368) (by decide)))
      refine lv_iload_n hx hb dX9_writeWord_76 rfl (lv_at hl 1 rfl) ?_
      refine lv_sipush (v := 370) hx hb dX9_writeWord_77 (by decide) ?_
      refine lv_icmp_lt (tgt := 103) hx hb dX9_writeWord_80 (by decide) (fun _ => ?_) (fun c => absurd (iv_lt j36 (by decide : iv 370 370 370) (by decide)) c)
      exact j34 x2 x3 x4 x5 f0 f1 ix5 _ _ hK hP hD hS ls (lv_sub hl [] rfl)
    · skip
      have j37 : iv x0 354 2147483647 := iv_nltL (iv_any x0) (by decide : iv 354 354 354) c35 (by decide)
      refine lv_iload_n hx hb dX9_writeWord_35 rfl (lv_at hl 1 rfl) ?_
      refine lv_sipush (v := 358) hx hb dX9_writeWord_36 (by decide) ?_
      refine lv_icmp_gt (tgt := 61) hx hb dX9_writeWord_39 (by decide) (fun c38 => ?_) (fun c38 => ?_)
      · skip
        have j39 : iv x0 359 2147483647 := iv_ltR (by decide : iv 358 358 358) j37 c38 (by decide)
        refine lv_iload_n hx hb dX9_writeWord_61 rfl (lv_at hl 1 rfl) ?_
        refine lv_sipush (v := 368) hx hb dX9_writeWord_62 (by decide) ?_
        refine lv_icmp_ne (tgt := 76) hx hb dX9_writeWord_65 (by decide) (fun c40 => ?_) (fun c40 => ?_)
        · skip
          refine lv_iload_n hx hb dX9_writeWord_76 rfl (lv_at hl 1 rfl) ?_
          refine lv_sipush (v := 370) hx hb dX9_writeWord_77 (by decide) ?_
          refine lv_icmp_lt (tgt := 103) hx hb dX9_writeWord_80 (by decide) (fun c41 => ?_) (fun c41 => ?_)
          · skip
            have j42 : iv x0 359 369 := iv_ltL j39 (by decide : iv 370 370 370) c41 (by decide)
            exact j34 x2 x3 x4 x5 f0 f1 ix5 _ _ hK hP hD hS ls (lv_sub hl [] rfl)
          · skip
            have j43 : iv x0 370 2147483647 := iv_nltL j39 (by decide : iv 370 370 370) c41 (by decide)
            refine lv_iload_n hx hb dX9_writeWord_83 rfl (lv_at hl 1 rfl) ?_
            refine lv_sipush (v := 374) hx hb dX9_writeWord_84 (by decide) ?_
            refine lv_icmp_gt (tgt := 103) hx hb dX9_writeWord_87 (by decide) (fun c44 => ?_) (fun c44 => ?_)
            · skip
              have j45 : iv x0 375 2147483647 := iv_ltR (by decide : iv 374 374 374) j43 c44 (by decide)
              exact j34 x2 x3 x4 x5 f0 f1 ix5 _ _ hK hP hD hS ls (lv_sub hl [] rfl)
            · skip
              have j46 : iv x0 370 374 := iv_nltR (by decide : iv 374 374 374) j43 c44 (by decide)
              refine lv_aload_n hx hb dX9_writeWord_90 rfl (lv_at hl 0 rfl) ?_
              refine va_get (D := (dC, dI)) (ci := 9) (v := .ref h2) (C := RX9) (T := TX9) (N := 6) hx hb hG inGX9 hown hK hP 0 rfl rfl 1 (by decide) (hG _ wd_96) (fun _ h9 => h9) rfl dX9_writeWord_91 ?_
              refine lv_iload_n hx hb dX9_writeWord_94 rfl (lv_at hl 1 rfl) ?_
              refine lv_sipush (v := 370) hx hb dX9_writeWord_95 (by decide) ?_
              refine lv_isub hx hb dX9_writeWord_98 ?_
              refine lv_topi (fun v47 ev47 => ?_)
              have iv47 : iv v47 0 4 := iv_eq ev47 (iv_sub j46 (by decide : iv 370 370 370) (by decide) (by decide))
              have tv47 : v47.toInt = x0.toInt + (-370) := iv_subT ev47 j46 (by decide) (by decide) (by decide)
              refine lv_iconst (v := 1) hx hb dX9_writeWord_99 (by decide) ?_
              refine lv_ishr hx hb dX9_writeWord_100 ?_
              refine lv_topi (fun v48 ev48 => ?_)
              have iv48 : iv v48 0 2 := iv_eq ev48 (iv_shr 1 (by decide) iv47 (by decide) (by decide))
              refine lv_iload_n hx hb dX9_writeWord_101 rfl (lv_at hl 2 rfl) ?_
              refine va_iast hx hb hK hP hD hS 1 0 rfl rfl (iv_in iv48 (by decide) (by decide) : vp_in v48 3) dX9_writeWord_102 (fun H locs hP hD hS => ?_)
              obtain ⟨nf49, enf49⟩ : ∃ z, z = upd f0 v48.toNatClampNeg x1 := ⟨_, rfl⟩
              obtain ⟨hP, hD⟩ := nv_eq (ws' := [(h0, .inr (9, [.ref h1, .ref h2, .int x2, .int x3, .int x4, .int x5])), (h2, .inl (y0, 3, .inl nf49)), (h1, .inl (y1, 3, .inl f1))]) hP hD (by subst enf49; rfl)
              exact j34 x2 x3 x4 x5 nf49 f1 ix5 _ _ hK hP hD hS ls (lv_sub hl [] rfl)
        · skip
          subst c40
          refine lv_aload_n hx hb dX9_writeWord_68 rfl (lv_at hl 0 rfl) ?_
          refine lv_iload_n hx hb dX9_writeWord_69 rfl (lv_at hl 2 rfl) ?_
          refine va_put (D := (dC, dI)) (ci := 9) (v := .int x1) (ty := .int) (C := RX9) (T := TX9) (N := 6) hx hb hG inGX9 tyX9 tyX9_ok nmX9 hown hK hP hD hS 0 rfl rfl 3 (by decide) (hG _ wd_98) (fun _ h9 => h9) rfl (by decide +kernel) rfl rfl (Nat.le_of_ble_eq_true rfl) dX9_writeWord_70 (fun H locs hP hD hS => ?_)
          obtain ⟨hP, hD⟩ := nv_eq (ws' := [(h0, .inr (9, [.ref h1, .ref h2, .int x2, .int x1, .int x4, .int x5])), (h2, .inl (y0, 3, .inl f0)), (h1, .inl (y1, 3, .inl f1))]) hP hD rfl
          refine lv_goto (tgt := 103) hx hb dX9_writeWord_73 (by decide) ?_
          exact j34 x2 x1 x4 x5 f0 f1 ix5 _ _ hK hP hD hS ls (lv_sub hl [] rfl)
      · skip
        have j50 : iv x0 354 358 := iv_nltR (by decide : iv 358 358 358) j37 c38 (by decide)
        refine lv_aload_n hx hb dX9_writeWord_42 rfl (lv_at hl 0 rfl) ?_
        refine va_get (D := (dC, dI)) (ci := 9) (v := .ref h1) (C := RX9) (T := TX9) (N := 6) hx hb hG inGX9 hown hK hP 0 rfl rfl 0 (by decide) (hG _ wd_95) (fun _ h9 => h9) rfl dX9_writeWord_43 ?_
        refine lv_iload_n hx hb dX9_writeWord_46 rfl (lv_at hl 1 rfl) ?_
        refine lv_sipush (v := 354) hx hb dX9_writeWord_47 (by decide) ?_
        refine lv_isub hx hb dX9_writeWord_50 ?_
        refine lv_topi (fun v51 ev51 => ?_)
        have iv51 : iv v51 0 4 := iv_eq ev51 (iv_sub j50 (by decide : iv 354 354 354) (by decide) (by decide))
        have tv51 : v51.toInt = x0.toInt + (-354) := iv_subT ev51 j50 (by decide) (by decide) (by decide)
        refine lv_iconst (v := 1) hx hb dX9_writeWord_51 (by decide) ?_
        refine lv_ishr hx hb dX9_writeWord_52 ?_
        refine lv_topi (fun v52 ev52 => ?_)
        have iv52 : iv v52 0 2 := iv_eq ev52 (iv_shr 1 (by decide) iv51 (by decide) (by decide))
        refine lv_iload_n hx hb dX9_writeWord_53 rfl (lv_at hl 2 rfl) ?_
        refine lv_bipush (v := 17) hx hb dX9_writeWord_54 (by decide) ?_
        refine lv_iand hx hb dX9_writeWord_56 ?_
        refine lv_topi (fun v53 ev53 => ?_)
        have iv53 : iv v53 0 17 := iv_eq ev53 (iv_and (x := x1) (iv_w (by decide : iv 17 17 17) (by decide) (by decide) : iv 17 0 17))
        refine va_iast hx hb hK hP hD hS 2 1 rfl rfl (iv_in iv52 (by decide) (by decide) : vp_in v52 3) dX9_writeWord_57 (fun H locs hP hD hS => ?_)
        obtain ⟨nf54, enf54⟩ : ∃ z, z = upd f1 v52.toNatClampNeg v53 := ⟨_, rfl⟩
        obtain ⟨hP, hD⟩ := nv_eq (ws' := [(h0, .inr (9, [.ref h1, .ref h2, .int x2, .int x3, .int x4, .int x5])), (h2, .inl (y0, 3, .inl f0)), (h1, .inl (y1, 3, .inl nf54))]) hP hD (by subst enf54; rfl)
        refine lv_goto (tgt := 103) hx hb dX9_writeWord_58 (by decide) ?_
        exact j34 x2 x3 x4 x5 f0 nf54 ix5 _ _ hK hP hD hS ls (lv_sub hl [] rfl)
  · skip
    subst c1
    refine lv_aload_n hx hb dX9_writeWord_7 rfl (lv_at hl 0 rfl) ?_
    refine lv_iload_n hx hb dX9_writeWord_8 rfl (lv_at hl 2 rfl) ?_
    refine lv_ldc hx hb hown (hG _ wd_763) dX9_writeWord_9 ?_
    refine lv_iand hx hb dX9_writeWord_11 ?_
    refine lv_topi (fun v55 ev55 => ?_)
    have iv55 : iv v55 0 65531 := iv_eq ev55 (iv_and (x := x1) (iv_w (by decide : iv 65531 65531 65531) (by decide) (by decide) : iv 65531 0 65531))
    refine va_put (D := (dC, dI)) (ci := 9) (v := .int v55) (ty := .int) (C := RX9) (T := TX9) (N := 6) hx hb hG inGX9 tyX9 tyX9_ok nmX9 hown hK hP hD hS 0 rfl rfl 2 (by decide) (hG _ wd_97) (fun _ h9 => h9) rfl (by decide +kernel) rfl rfl (Nat.le_of_ble_eq_true rfl) dX9_writeWord_12 (fun H locs hP hD hS => ?_)
    obtain ⟨hP, hD⟩ := nv_eq (ws' := [(h0, .inr (9, [.ref h1, .ref h2, .int v55, .int x3, .int x4, .int x5])), (h2, .inl (y0, 3, .inl f0)), (h1, .inl (y1, 3, .inl f1))]) hP hD rfl
    refine lv_iload_n hx hb dX9_writeWord_15 rfl (lv_at hl 2 rfl) ?_
    refine lv_iconst (v := 4) hx hb dX9_writeWord_16 (by decide) ?_
    refine lv_iand hx hb dX9_writeWord_17 ?_
    refine lv_topi (fun v56 ev56 => ?_)
    have iv56 : iv v56 0 4 := iv_eq ev56 (iv_and (x := x1) (iv_w (by decide : iv 4 4 4) (by decide) (by decide) : iv 4 0 4))
    refine lv_if_eq (tgt := 103) hx hb dX9_writeWord_18 (by decide) (fun c57 => ?_) (fun c57 => ?_)
    · skip
      subst c57
      exact j34 v55 x3 x4 x5 f0 f1 ix5 _ _ hK hP hD hS ls (lv_sub hl [] rfl)
    · skip
      have j58 : iv v56 1 4 := iv_neLo iv56 (by decide : iv 0 0 0) c57 (by decide)
      refine lv_aload_n hx hb dX9_writeWord_21 rfl (lv_at hl 0 rfl) ?_
      obtain ⟨hPc, hDc, hFc⟩ := nv_sub3 (wc := [(h0, .inr (9, [.ref h1, .ref h2, .int v55, .int x3, .int x4, .int x5]))]) hP hD hS hA [0] (by decide) rfl
      have hKc := hK.sub (tys' := []) [] rfl
      refine va_callv (va_runV (As := []) (rest := []) ⟨hx, hb, hml, hown, hG⟩ (cX9_startAnew_1 l dC dI h0 h1 h2 H.size v55 x3 x4 x5 ix5) (cwV 0 hG (gV wd_764 wd_766 wp_30 wd_5 wd_767) rfl rfl rfl (by decide +kernel) ⟨Nat.le_of_ble_eq_true rfl, Nat.le_of_ble_eq_true rfl⟩) ⟨fun a U g mk q => by obtain ⟨q0, q1, qP, qK, qD⟩ := q; exact ⟨q0, q1, qP, va_K.moved (u := U) (U := U.calling g mk a) (Vm.Alike.refl U.vm) qK, qD⟩, va_recv hKc hPc (ci := 9) (q0 := 0) rfl rfl, fun U hU hW => ⟨rfl, by rw [hU], by rw [hU]; exact hPc, va_K.moved hW.alike hKc, hDc.weaken (fun _ _ _ _ => trivial)⟩⟩ rfl rfl hl.1 rfl (lv_room (Nat.le_of_ble_eq_true rfl)) dX9_writeWord_22 ⟨by decide, by decide⟩) hS (fun q _ h => hFc q h) hFc (fun u60 t H1 locs ht hvm hw hB hz1 hk1 hS => ?_)
      obtain ⟨hP1, hK1, hD1⟩ := hB
      rw [ht] at hP1
      have hK1 := va_K.moved hvm.symm hK1
      obtain ⟨hP, hD⟩ := nv_join (wf := [(h2, .inl (y0, 3, .inl f0)), (h1, .inl (y1, 3, .inl f1)), (h0, .inr (9, [.ref h1, .ref h2, .int v55, .int 0, .int 0, .int 0]))]) hP hD [0] [1, 2] rfl rfl (by decide) (by decide) hk1 hFc hP1 hD1 rfl
      have hK := (hK.sub (tys' := [(y0, .int), (y1, .int)]) [0, 1] rfl).app hK1
      generalize H1 = H at hP hS ⊢
      have hK : va_K (dC, dI) vwCl [(y0, .int), (y1, .int)] s := hK
      refine lv_goto (tgt := 103) hx hb dX9_writeWord_25 (by decide) ?_
      exact j34 v55 0 0 0 f0 f1 (iv_w (by decide : iv 0 0 0) (by decide) (by decide)) _ _ hK (hP.sub (ws' := _) [2, 0, 1] rfl) (hD.sub (ws' := _) [2, 0, 1] (by decide) rfl) hS ls (lv_sub hl [] rfl)
set_option maxHeartbeats 100000000 in
set_option maxRecDepth 100000 in
theorem cX5_multiply_1 (l : Launch) (dC : Nat → ClassId) (dI : Nat → Nat → Nat) (h0 : Nat) (sz : Nat) (x0 x1 x2 x3 x4 x5 : Int32) : Met l yX5_multiply (Cond.code yX5_multiply cX5_multiply 3 none :: lw_G) ({ frames := 0, cells := 0, slots := 0, locals := 0 }) (va_Pc [.ref h0] (fun U => U.heap.size = sz ∧ va_P (dC, dI) vwCl [(h0, .inr (5, [.int x0, .int x1, .int x2, .int x3, .int x4, .int x5]))] U.heap ∧ va_K (dC, dI) vwCl [] U ∧ va_D (fun _ => True) [(h0, .inr (5, [.int x0, .int x1, .int x2, .int x3, .int x4, .int x5]))])) (va_Qv (fun (u : Int32 × Int32 × Int32 × Int32) => iv u.2.1 0 65535 ∧ iv u.2.2.1 0 65535 ∧ iv u.2.2.2 0 65535 ∧ True) (fun (u : Int32 × Int32 × Int32 × Int32) (t : State) => va_P (dC, dI) vwCl [(h0, .inr (5, [.int u.1, .int x1, .int x2, .int u.2.1, .int u.2.2.1, .int u.2.2.2]))] t.heap ∧ va_K (dC, dI) vwCl [] t ∧ va_D (va_A [(h0, .inr (5, [.int x0, .int x1, .int x2, .int x3, .int x4, .int x5]))] sz) [(h0, .inr (5, [.int u.1, .int x1, .int x2, .int u.2.1, .int u.2.2.1, .int u.2.2.2]))]) (va_A [(h0, .inr (5, [.int x0, .int x1, .int x2, .int x3, .int x4, .int x5]))] sz)) 0 0 (va_A [(h0, .inr (5, [.int x0, .int x1, .int x2, .int x3, .int x4, .int x5]))] sz) := by
  refine Met.ofW (cc := cX5_multiply) (maxL := 3) (ret := none) (by decide) rfl ?_
  intro p e s m args below meth c s₁ B hml hv
  obtain ⟨rfl, hsz, hP, hK, hD0⟩ := hv
  have hx := B.exec
  have hb := B.bytes
  have hr := B.returns
  have hts0 := atoms_spec (ws := Cond.code yX5_multiply cX5_multiply 3 none :: lw_G) B.pre
  have hG : ∀ w ∈ lw_G, w.before _ s = true := fun w h => hts0 w (List.mem_cons_of_mem _ h)
  have hown : s.vm.findClass RX5 = some m.cls := findClass_of_methodNamed B.named
  have hlocks := B.notSynchronized
  subst hsz
  have hD := hD0.self (sz := s.heap.size)
  generalize hAe : va_A [(h0, .inr (5, [.int x0, .int x1, .int x2, .int x3, .int x4, .int x5]))] s.heap.size = A at hD ⊢
  have hA : ∀ q : Nat, s.heap.size ≤ q → A q := fun q h => by rw [← hAe]; exact Or.inr h
  have hS : va_S A s.heap s.heap [] := va_S.rf
  have hP : va_P (dC, dI) vwCl [(h0, .inr (5, [.int x0, .int x1, .int x2, .int x3, .int x4, .int x5]))] s.heap := hP
  have hl := lv_entry ([.ref h0]) (n := 3) (Nat.le_of_ble_eq_true rfl)
  rw [lg_entry_eq]
  generalize (lg_sl ([.ref h0]) ++ List.replicate (3 - (lg_sl ([.ref h0])).length) Slot.unset).toArray = ls at hl ⊢
  have hl : lv_has ls 3 [(0, .ref h0)] := hl
  generalize ([.ref h0] : List Value).toArray = ar at hG ⊢
  refine wq (fun Q hQ => ?_)
  refine lv_aload_n hx hb dX5_multiply_0 rfl (lv_at hl 0 rfl) ?_
  refine va_get (D := (dC, dI)) (ci := 5) (v := .int x0) (C := RX5) (T := TX5) (N := 6) hx hb hG inGX5 hown hK hP 0 rfl rfl 0 (by decide) (hG _ wd_70) (fun _ h9 => h9) rfl dX5_multiply_1 ?_
  refine lv_sipush (v := 306) hx hb dX5_multiply_4 (by decide) ?_
  refine jcut (a := ∀ (b15 : Int64) (b16 : Int32) (b17 : Int32) (ib17 : iv b17 0 65535) (H : Heap) (locs : List Loc) (hK : va_K (dC, dI) vwCl [] s) (hP : va_P (dC, dI) vwCl [(h0, .inr (5, [.int b16, .int x1, .int x2, .int x3, .int x4, .int b17]))] H) (hD : va_D A [(h0, .inr (5, [.int b16, .int x1, .int x2, .int x3, .int x4, .int b17]))]) (hS : va_S A s.heap H locs) (ls : Array Slot) (hl : lv_has ls 3 [(1, .long b15), (0, .ref h0)]), W p l e (headSpec (Cond.code yX5_multiply cX5_multiply 3 none :: lw_G) ({ frames := 0, cells := 0, slots := 0, locals := 0 })).room s m ar below meth c H locs 0 0 Q (F0 m 60 ls [])) ?_ (fun j18 => ?_)
  · skip
    intro b15 b16 b17 ib17 H locs hK hP hD hS ls hl
    refine lv_aload_n hx hb dX5_multiply_60 rfl (lv_at hl 1 rfl) ?_
    refine va_get (D := (dC, dI)) (ci := 5) (v := .int b16) (C := RX5) (T := TX5) (N := 6) hx hb hG inGX5 hown hK hP 0 rfl rfl 0 (by decide) (hG _ wd_70) (fun _ h9 => h9) rfl dX5_multiply_61 ?_
    refine lv_sipush (v := 308) hx hb dX5_multiply_64 (by decide) ?_
    refine jcut (a := ∀ (b28 : Int64) (b29 : Int32) (b30 : Int32) (ib30 : iv b30 0 65535) (H : Heap) (locs : List Loc) (hK : va_K (dC, dI) vwCl [] s) (hP : va_P (dC, dI) vwCl [(h0, .inr (5, [.int b29, .int x1, .int x2, .int x3, .int x4, .int b30]))] H) (hD : va_D A [(h0, .inr (5, [.int b29, .int x1, .int x2, .int x3, .int x4, .int b30]))]) (hS : va_S A s.heap H locs) (ls : Array Slot) (hl : lv_has ls 3 [(1, .long b28), (0, .ref h0)]), W p l e (headSpec (Cond.code yX5_multiply cX5_multiply 3 none :: lw_G) ({ frames := 0, cells := 0, slots := 0, locals := 0 })).room s m ar below meth c H locs 0 0 Q (F0 m 98 ls [])) ?_ (fun j31 => ?_)
    · skip
      intro b28 b29 b30 ib30 H locs hK hP hD hS ls hl
      refine lv_aload_n hx hb dX5_multiply_98 rfl (lv_at hl 1 rfl) ?_
      refine lv_lload_n hx hb dX5_multiply_99 rfl (lv_at hl 0 rfl) ?_
      refine lv_l2i (v := _) hx hb dX5_multiply_100 rfl ?_
      refine lv_topi (fun v32 ev32 => ?_)
      refine lv_ldc hx hb hown (hG _ wd_758) dX5_multiply_101 ?_
      refine lv_iand hx hb dX5_multiply_103 ?_
      refine lv_topi (fun v33 ev33 => ?_)
      have iv33 : iv v33 0 65535 := iv_eq ev33 (iv_and (x := v32) (iv_w (by decide : iv 65535 65535 65535) (by decide) (by decide) : iv 65535 0 65535))
      refine va_put (D := (dC, dI)) (ci := 5) (v := .int v33) (ty := .int) (C := RX5) (T := TX5) (N := 6) hx hb hG inGX5 tyX5 tyX5_ok nmX5 hown hK hP hD hS 0 rfl rfl 3 (by decide) (hG _ wd_73) (fun _ h9 => h9) rfl (by decide +kernel) rfl rfl (Nat.le_of_ble_eq_true rfl) dX5_multiply_104 (fun H locs hP hD hS => ?_)
      obtain ⟨hP, hD⟩ := nv_eq (ws' := [(h0, .inr (5, [.int b29, .int x1, .int x2, .int v33, .int x4, .int b30]))]) hP hD rfl
      refine lv_aload_n hx hb dX5_multiply_107 rfl (lv_at hl 1 rfl) ?_
      refine lv_lload_n hx hb dX5_multiply_108 rfl (lv_at hl 0 rfl) ?_
      refine lv_bipush (v := 16) hx hb dX5_multiply_109 (by decide) ?_
      refine lv_lushr (v := _) hx hb dX5_multiply_111 rfl ?_
      refine lv_topl (fun w34 ew34 => ?_)
      refine lv_l2i (v := _) hx hb dX5_multiply_112 rfl ?_
      refine lv_topi (fun v35 ev35 => ?_)
      refine lv_ldc hx hb hown (hG _ wd_758) dX5_multiply_113 ?_
      refine lv_iand hx hb dX5_multiply_115 ?_
      refine lv_topi (fun v36 ev36 => ?_)
      have iv36 : iv v36 0 65535 := iv_eq ev36 (iv_and (x := v35) (iv_w (by decide : iv 65535 65535 65535) (by decide) (by decide) : iv 65535 0 65535))
      refine va_put (D := (dC, dI)) (ci := 5) (v := .int v36) (ty := .int) (C := RX5) (T := TX5) (N := 6) hx hb hG inGX5 tyX5 tyX5_ok nmX5 hown hK hP hD hS 0 rfl rfl 4 (by decide) (hG _ wd_74) (fun _ h9 => h9) rfl (by decide +kernel) rfl rfl (Nat.le_of_ble_eq_true rfl) dX5_multiply_116 (fun H locs hP hD hS => ?_)
      obtain ⟨hP, hD⟩ := nv_eq (ws' := [(h0, .inr (5, [.int b29, .int x1, .int x2, .int v33, .int v36, .int b30]))]) hP hD rfl
      rw [hQ]
      obtain ⟨hP9, hD9⟩ := nv_sub2 (wc := [(h0, .inr (5, [.int b29, .int x1, .int x2, .int v33, .int v36, .int b30]))]) hP hD [0] (by decide) rfl
      have hK9 := hK.sub (tys' := []) [] rfl
      exact W.vret hx hb hr (fun t ht hW => ⟨⟨(b29, v33, v36, b30), rfl, ⟨iv_w iv33 (by decide) (by decide), iv_w iv36 (by decide) (by decide), iv_w ib30 (by decide) (by decide), trivial⟩, by rw [ht]; exact hP9, va_K.moved hW.alike hK9, hD9⟩, hS.F ht⟩) hS.2.2 dX5_multiply_119
    refine lv_icmp_ne (tgt := 98) hx hb dX5_multiply_67 (by decide) (fun c19 => ?_) (fun c19 => ?_)
    · skip
      exact j31 b15 b16 b17 ib17 _ _ hK hP hD hS ls hl
    · skip
      subst c19
      refine lv_lload_n hx hb dX5_multiply_70 rfl (lv_at hl 0 rfl) ?_
      refine lv_aload_n hx hb dX5_multiply_71 rfl (lv_at hl 1 rfl) ?_
      refine va_get (D := (dC, dI)) (ci := 5) (v := .int x4) (C := RX5) (T := TX5) (N := 6) hx hb hG inGX5 hown hK hP 0 rfl rfl 4 (by decide) (hG _ wd_74) (fun _ h9 => h9) rfl dX5_multiply_72 ?_
      refine lv_i2l (v := _) hx hb dX5_multiply_75 rfl ?_
      refine lv_topl (fun w37 ew37 => ?_)
      refine lv_bipush (v := 16) hx hb dX5_multiply_76 (by decide) ?_
      refine lv_lshl (v := _) hx hb dX5_multiply_78 rfl ?_
      refine lv_topl (fun w38 ew38 => ?_)
      refine lv_aload_n hx hb dX5_multiply_79 rfl (lv_at hl 1 rfl) ?_
      refine va_get (D := (dC, dI)) (ci := 5) (v := .int x3) (C := RX5) (T := TX5) (N := 6) hx hb hG inGX5 hown hK hP 0 rfl rfl 3 (by decide) (hG _ wd_73) (fun _ h9 => h9) rfl dX5_multiply_80 ?_
      refine lv_i2l (v := _) hx hb dX5_multiply_83 rfl ?_
      refine lv_topl (fun w39 ew39 => ?_)
      refine lv_lor hx hb dX5_multiply_84 ?_
      refine lv_topl (fun w40 ew40 => ?_)
      refine lv_ladd hx hb dX5_multiply_85 ?_
      refine lv_topl (fun w41 ew41 => ?_)
      refine lv_lstore_n (lv' := [(1, .long w41), (0, .ref h0)]) hx hb dX5_multiply_86 rfl hl (by decide) rfl (fun ls hl => ?_)
      refine lv_aload_n hx hb dX5_multiply_87 rfl (lv_at hl 1 rfl) ?_
      refine lv_lload_n hx hb dX5_multiply_88 rfl (lv_at hl 0 rfl) ?_
      refine lv_bipush (v := 32) hx hb dX5_multiply_89 (by decide) ?_
      refine lv_lushr (v := _) hx hb dX5_multiply_91 rfl ?_
      refine lv_topl (fun w42 ew42 => ?_)
      refine lv_l2i (v := _) hx hb dX5_multiply_92 rfl ?_
      refine lv_topi (fun v43 ev43 => ?_)
      refine lv_iconst (v := 1) hx hb dX5_multiply_93 (by decide) ?_
      refine lv_iand hx hb dX5_multiply_94 ?_
      refine lv_topi (fun v44 ev44 => ?_)
      have iv44 : iv v44 0 1 := iv_eq ev44 (iv_and (x := v43) (iv_w (by decide : iv 1 1 1) (by decide) (by decide) : iv 1 0 1))
      refine va_put (D := (dC, dI)) (ci := 5) (v := .int v44) (ty := .int) (C := RX5) (T := TX5) (N := 6) hx hb hG inGX5 tyX5 tyX5_ok nmX5 hown hK hP hD hS 0 rfl rfl 5 (by decide) (hG _ wd_75) (fun _ h9 => h9) rfl (by decide +kernel) rfl rfl (Nat.le_of_ble_eq_true rfl) dX5_multiply_95 (fun H locs hP hD hS => ?_)
      obtain ⟨hP, hD⟩ := nv_eq (ws' := [(h0, .inr (5, [.int 308, .int x1, .int x2, .int x3, .int x4, .int v44]))]) hP hD rfl
      exact j31 w41 308 v44 (iv_w iv44 (by decide) (by decide)) _ _ hK hP hD hS ls hl
  refine lv_icmp_ne (tgt := 43) hx hb dX5_multiply_7 (by decide) (fun c1 => ?_) (fun c1 => ?_)
  · skip
    refine lv_aload_n hx hb dX5_multiply_43 rfl (lv_at hl 0 rfl) ?_
    refine va_get (D := (dC, dI)) (ci := 5) (v := .int x1) (C := RX5) (T := TX5) (N := 6) hx hb hG inGX5 hown hK hP 0 rfl rfl 1 (by decide) (hG _ wd_71) (fun _ h9 => h9) rfl dX5_multiply_44 ?_
    refine lv_i2l (v := _) hx hb dX5_multiply_47 rfl ?_
    refine lv_topl (fun w45 ew45 => ?_)
    refine lv_aload_n hx hb dX5_multiply_48 rfl (lv_at hl 0 rfl) ?_
    refine va_get (D := (dC, dI)) (ci := 5) (v := .int x2) (C := RX5) (T := TX5) (N := 6) hx hb hG inGX5 hown hK hP 0 rfl rfl 2 (by decide) (hG _ wd_72) (fun _ h9 => h9) rfl dX5_multiply_49 ?_
    refine lv_i2l (v := _) hx hb dX5_multiply_52 rfl ?_
    refine lv_topl (fun w46 ew46 => ?_)
    refine lv_lmul hx hb dX5_multiply_53 ?_
    refine lv_topl (fun w47 ew47 => ?_)
    refine lv_lstore_n (lv' := [(1, .long w47), (0, .ref h0)]) hx hb dX5_multiply_54 rfl hl (by decide) rfl (fun ls hl => ?_)
    refine lv_aload_n hx hb dX5_multiply_55 rfl (lv_at hl 1 rfl) ?_
    refine lv_iconst (v := 0) hx hb dX5_multiply_56 (by decide) ?_
    refine va_put (D := (dC, dI)) (ci := 5) (v := .int 0) (ty := .int) (C := RX5) (T := TX5) (N := 6) hx hb hG inGX5 tyX5 tyX5_ok nmX5 hown hK hP hD hS 0 rfl rfl 5 (by decide) (hG _ wd_75) (fun _ h9 => h9) rfl (by decide +kernel) rfl rfl (Nat.le_of_ble_eq_true rfl) dX5_multiply_57 (fun H locs hP hD hS => ?_)
    obtain ⟨hP, hD⟩ := nv_eq (ws' := [(h0, .inr (5, [.int x0, .int x1, .int x2, .int x3, .int x4, .int 0]))]) hP hD rfl
    exact j18 w47 x0 0 (iv_w (by decide : iv 0 0 0) (by decide) (by decide)) _ _ hK hP hD hS ls hl
  · skip
    subst c1
    refine lv_aload_n hx hb dX5_multiply_10 rfl (lv_at hl 0 rfl) ?_
    refine va_get (D := (dC, dI)) (ci := 5) (v := .int x1) (C := RX5) (T := TX5) (N := 6) hx hb hG inGX5 hown hK hP 0 rfl rfl 1 (by decide) (hG _ wd_71) (fun _ h9 => h9) rfl dX5_multiply_11 ?_
    refine lv_i2s (v := _) hx hb dX5_multiply_14 rfl ?_
    refine lv_topi (fun v48 ev48 => ?_)
    have iv48 : iv v48 (-32768) 32767 := iv_eq ev48 (iv_i2s _)
    refine lv_i2l (v := _) hx hb dX5_multiply_15 rfl ?_
    refine lv_topl (fun w49 ew49 => ?_)
    refine lv_aload_n hx hb dX5_multiply_16 rfl (lv_at hl 0 rfl) ?_
    refine va_get (D := (dC, dI)) (ci := 5) (v := .int x2) (C := RX5) (T := TX5) (N := 6) hx hb hG inGX5 hown hK hP 0 rfl rfl 2 (by decide) (hG _ wd_72) (fun _ h9 => h9) rfl dX5_multiply_17 ?_
    refine lv_i2s (v := _) hx hb dX5_multiply_20 rfl ?_
    refine lv_topi (fun v50 ev50 => ?_)
    have iv50 : iv v50 (-32768) 32767 := iv_eq ev50 (iv_i2s _)
    refine lv_i2l (v := _) hx hb dX5_multiply_21 rfl ?_
    refine lv_topl (fun w51 ew51 => ?_)
    refine lv_lmul hx hb dX5_multiply_22 ?_
    refine lv_topl (fun w52 ew52 => ?_)
    refine lv_lstore_n (lv' := [(1, .long w52), (0, .ref h0)]) hx hb dX5_multiply_23 rfl hl (by decide) rfl (fun ls hl => ?_)
    refine lv_aload_n hx hb dX5_multiply_24 rfl (lv_at hl 1 rfl) ?_
    refine lv_lload_n hx hb dX5_multiply_25 rfl (lv_at hl 0 rfl) ?_
    refine lv_lconst (v := 0) hx hb dX5_multiply_26 (by decide) ?_
    refine W.lcmp hx hb dX5_multiply_27 ?_
    refine lv_topi (fun v53 ev53 => ?_)
    refine jcut (a := ∀ (b57 : Int32) (ib57 : iv b57 0 65535) (H : Heap) (locs : List Loc) (hK : va_K (dC, dI) vwCl [] s) (hP : va_P (dC, dI) vwCl [(h0, .inr (5, [.int 306, .int x1, .int x2, .int x3, .int x4, .int x5]))] H) (hD : va_D A [(h0, .inr (5, [.int 306, .int x1, .int x2, .int x3, .int x4, .int x5]))]) (hS : va_S A s.heap H locs) (ls : Array Slot) (hl : lv_has ls 3 [(1, .long w52), (0, .ref h0)]), W p l e (headSpec (Cond.code yX5_multiply cX5_multiply 3 none :: lw_G) ({ frames := 0, cells := 0, slots := 0, locals := 0 })).room s m ar below meth c H locs 0 0 Q (F0 m 37 ls [.int b57, .ref h0])) ?_ (fun j58 => ?_)
    · skip
      intro b57 ib57 H locs hK hP hD hS ls hl
      refine va_put (D := (dC, dI)) (ci := 5) (v := .int b57) (ty := .int) (C := RX5) (T := TX5) (N := 6) hx hb hG inGX5 tyX5 tyX5_ok nmX5 hown hK hP hD hS 0 rfl rfl 5 (by decide) (hG _ wd_75) (fun _ h9 => h9) rfl (by decide +kernel) rfl rfl (Nat.le_of_ble_eq_true rfl) dX5_multiply_37 (fun H locs hP hD hS => ?_)
      obtain ⟨hP, hD⟩ := nv_eq (ws' := [(h0, .inr (5, [.int 306, .int x1, .int x2, .int x3, .int x4, .int b57]))]) hP hD rfl
      refine lv_goto (tgt := 60) hx hb dX5_multiply_40 (by decide) ?_
      exact j18 w52 306 b57 ib57 _ _ hK hP hD hS ls hl
    refine lv_if_ge (tgt := 36) hx hb dX5_multiply_28 (by decide) (fun c54 => ?_) (fun c54 => ?_)
    · skip
      have j59 : iv v53 0 2147483647 := iv_leR (by decide : iv 0 0 0) (iv_any v53) c54 (by decide)
      refine lv_iconst (v := 0) hx hb dX5_multiply_36 (by decide) ?_
      exact j58 0 (iv_w (by decide : iv 0 0 0) (by decide) (by decide)) _ _ hK hP hD hS ls hl
    · skip
      have j60 : iv v53 (-2147483648) (-1) := iv_nleR (by decide : iv 0 0 0) (iv_any v53) c54 (by decide)
      refine lv_ldc hx hb hown (hG _ wd_758) dX5_multiply_31 ?_
      refine lv_goto (tgt := 37) hx hb dX5_multiply_33 (by decide) ?_
      exact j58 65535 (iv_w (by decide : iv 65535 65535 65535) (by decide) (by decide)) _ _ hK hP hD hS ls hl
set_option maxHeartbeats 100000000 in
set_option maxRecDepth 100000 in
theorem cX5_writeWord_1 (l : Launch) (dC : Nat → ClassId) (dI : Nat → Nat → Nat) (h0 : Nat) (sz : Nat) (x0 x1 x2 x3 x4 x5 x6 x7 : Int32) : Met l yX5_writeWord (Cond.code yX5_writeWord cX5_writeWord 3 none :: lw_G) ({ frames := 1, cells := 0, slots := 0, locals := 22 }) (va_Pc [.ref h0, .int x0, .int x1] (fun U => U.heap.size = sz ∧ va_P (dC, dI) vwCl [(h0, .inr (5, [.int x2, .int x3, .int x4, .int x5, .int x6, .int x7]))] U.heap ∧ va_K (dC, dI) vwCl [] U ∧ va_D (fun _ => True) [(h0, .inr (5, [.int x2, .int x3, .int x4, .int x5, .int x6, .int x7]))])) (va_Qv (fun (u : Int32 × Int32 × Int32 × Int32 × Int32 × Int32) => True) (fun (u : Int32 × Int32 × Int32 × Int32 × Int32 × Int32) (t : State) => va_P (dC, dI) vwCl [(h0, .inr (5, [.int u.1, .int u.2.1, .int u.2.2.1, .int u.2.2.2.1, .int u.2.2.2.2.1, .int u.2.2.2.2.2]))] t.heap ∧ va_K (dC, dI) vwCl [] t ∧ va_D (va_A [(h0, .inr (5, [.int x2, .int x3, .int x4, .int x5, .int x6, .int x7]))] sz) [(h0, .inr (5, [.int u.1, .int u.2.1, .int u.2.2.1, .int u.2.2.2.1, .int u.2.2.2.2.1, .int u.2.2.2.2.2]))]) (va_A [(h0, .inr (5, [.int x2, .int x3, .int x4, .int x5, .int x6, .int x7]))] sz)) 0 0 (va_A [(h0, .inr (5, [.int x2, .int x3, .int x4, .int x5, .int x6, .int x7]))] sz) := by
  refine Met.ofW (cc := cX5_writeWord) (maxL := 3) (ret := none) (by decide) rfl ?_
  intro p e s m args below meth c s₁ B hml hv
  obtain ⟨rfl, hsz, hP, hK, hD0⟩ := hv
  have hx := B.exec
  have hb := B.bytes
  have hr := B.returns
  have hts0 := atoms_spec (ws := Cond.code yX5_writeWord cX5_writeWord 3 none :: lw_G) B.pre
  have hG : ∀ w ∈ lw_G, w.before _ s = true := fun w h => hts0 w (List.mem_cons_of_mem _ h)
  have hown : s.vm.findClass RX5 = some m.cls := findClass_of_methodNamed B.named
  have hlocks := B.notSynchronized
  subst hsz
  have hD := hD0.self (sz := s.heap.size)
  generalize hAe : va_A [(h0, .inr (5, [.int x2, .int x3, .int x4, .int x5, .int x6, .int x7]))] s.heap.size = A at hD ⊢
  have hA : ∀ q : Nat, s.heap.size ≤ q → A q := fun q h => by rw [← hAe]; exact Or.inr h
  have hS : va_S A s.heap s.heap [] := va_S.rf
  have hP : va_P (dC, dI) vwCl [(h0, .inr (5, [.int x2, .int x3, .int x4, .int x5, .int x6, .int x7]))] s.heap := hP
  have hl := lv_entry ([.ref h0, .int x0, .int x1]) (n := 3) (Nat.le_of_ble_eq_true rfl)
  rw [lg_entry_eq]
  generalize (lg_sl ([.ref h0, .int x0, .int x1]) ++ List.replicate (3 - (lg_sl ([.ref h0, .int x0, .int x1])).length) Slot.unset).toArray = ls at hl ⊢
  have hl : lv_has ls 3 [(0, .ref h0), (1, .int x0), (2, .int x1)] := hl
  generalize ([.ref h0, .int x0, .int x1] : List Value).toArray = ar at hG ⊢
  refine wq (fun Q hQ => ?_)
  refine lv_iload_n hx hb dX5_writeWord_0 rfl (lv_at hl 1 rfl) ?_
  refine jcut (a := ∀ (b4 : Int32) (b5 : Int32) (b6 : Int32) (b7 : Int32) (b8 : Int32) (b9 : Int32) (H : Heap) (locs : List Loc) (hK : va_K (dC, dI) vwCl [] s) (hP : va_P (dC, dI) vwCl [(h0, .inr (5, [.int b4, .int b5, .int b6, .int b7, .int b8, .int b9]))] H) (hD : va_D A [(h0, .inr (5, [.int b4, .int b5, .int b6, .int b7, .int b8, .int b9]))]) (hS : va_S A s.heap H locs) (ls : Array Slot) (hl : lv_has ls 3 []), W p l e (headSpec (Cond.code yX5_writeWord cX5_writeWord 3 none :: lw_G) ({ frames := 1, cells := 0, slots := 0, locals := 22 })).room s m ar below meth c H locs 0 0 Q (F0 m 109 ls [])) ?_ (fun j10 => ?_)
  · skip
    intro b4 b5 b6 b7 b8 b9 H locs hK hP hD hS ls hl
    rw [hQ]
    obtain ⟨hP9, hD9⟩ := nv_sub2 (wc := [(h0, .inr (5, [.int b4, .int b5, .int b6, .int b7, .int b8, .int b9]))]) hP hD [0] (by decide) rfl
    have hK9 := hK.sub (tys' := []) [] rfl
    exact W.vret hx hb hr (fun t ht hW => ⟨⟨(b4, b5, b6, b7, b8, b9), rfl, trivial, by rw [ht]; exact hP9, va_K.moved hW.alike hK9, hD9⟩, hS.F ht⟩) hS.2.2 dX5_writeWord_109
  have s1x : (x0.toInt < 304 ∨ 316 < x0.toInt) ∨ x0 = 304 ∨ x0 = 305 ∨ x0 = 306 ∨ x0 = 307 ∨ x0 = 308 ∨ x0 = 309 ∨ x0 = 310 ∨ x0 = 311 ∨ x0 = 312 ∨ x0 = 313 ∨ x0 = 314 ∨ x0 = 315 ∨ x0 = 316 := by
    have h1 := (iv_any x0)
    have : (x0.toInt < 304 ∨ 316 < x0.toInt) ∨ x0.toInt = 304 ∨ x0.toInt = 305 ∨ x0.toInt = 306 ∨ x0.toInt = 307 ∨ x0.toInt = 308 ∨ x0.toInt = 309 ∨ x0.toInt = 310 ∨ x0.toInt = 311 ∨ x0.toInt = 312 ∨ x0.toInt = 313 ∨ x0.toInt = 314 ∨ x0.toInt = 315 ∨ x0.toInt = 316 := by omega
    rcases this with q | q | q | q | q | q | q | q | q | q | q | q | q | q
    · exact Or.inl q
    · exact Or.inr (Or.inl (Int32.toInt_inj.mp q))
    · exact Or.inr (Or.inr (Or.inl (Int32.toInt_inj.mp q)))
    · exact Or.inr (Or.inr (Or.inr (Or.inl (Int32.toInt_inj.mp q))))
    · exact Or.inr (Or.inr (Or.inr (Or.inr (Or.inl (Int32.toInt_inj.mp q)))))
    · exact Or.inr (Or.inr (Or.inr (Or.inr (Or.inr (Or.inl (Int32.toInt_inj.mp q))))))
    · exact Or.inr (Or.inr (Or.inr (Or.inr (Or.inr (Or.inr (Or.inl (Int32.toInt_inj.mp q)))))))
    · exact Or.inr (Or.inr (Or.inr (Or.inr (Or.inr (Or.inr (Or.inr (Or.inl (Int32.toInt_inj.mp q))))))))
    · exact Or.inr (Or.inr (Or.inr (Or.inr (Or.inr (Or.inr (Or.inr (Or.inr (Or.inl (Int32.toInt_inj.mp q)))))))))
    · exact Or.inr (Or.inr (Or.inr (Or.inr (Or.inr (Or.inr (Or.inr (Or.inr (Or.inr (Or.inl (Int32.toInt_inj.mp q))))))))))
    · exact Or.inr (Or.inr (Or.inr (Or.inr (Or.inr (Or.inr (Or.inr (Or.inr (Or.inr (Or.inr (Or.inl (Int32.toInt_inj.mp q)))))))))))
    · exact Or.inr (Or.inr (Or.inr (Or.inr (Or.inr (Or.inr (Or.inr (Or.inr (Or.inr (Or.inr (Or.inr (Or.inl (Int32.toInt_inj.mp q))))))))))))
    · exact Or.inr (Or.inr (Or.inr (Or.inr (Or.inr (Or.inr (Or.inr (Or.inr (Or.inr (Or.inr (Or.inr (Or.inr (Or.inl (Int32.toInt_inj.mp q)))))))))))))
    · exact Or.inr (Or.inr (Or.inr (Or.inr (Or.inr (Or.inr (Or.inr (Or.inr (Or.inr (Or.inr (Or.inr (Or.inr (Or.inr ((Int32.toInt_inj.mp q))))))))))))))
  rcases s1x with s1 | rfl | rfl | rfl | rfl | rfl | rfl | rfl | rfl | rfl | rfl | rfl | rfl | rfl
  · skip
    refine lv_tableOut (tgt := 109) hx hb dX5_writeWord_1 s1 (by decide) ?_
    exact j10 x2 x3 x4 x5 x6 x7 _ _ hK hP hD hS ls (lv_sub hl [] rfl)
  · skip
    refine lv_tableIn (off := 67) (tgt := 68) hx hb dX5_writeWord_1 (by decide) (by decide) (by decide) (by decide) ?_
    refine lv_aload_n hx hb dX5_writeWord_68 rfl (lv_at hl 0 rfl) ?_
    refine lv_iload_n hx hb dX5_writeWord_69 rfl (lv_at hl 1 rfl) ?_
    refine va_put (D := (dC, dI)) (ci := 5) (v := .int 304) (ty := .int) (C := RX5) (T := TX5) (N := 6) hx hb hG inGX5 tyX5 tyX5_ok nmX5 hown hK hP hD hS 0 rfl rfl 0 (by decide) (hG _ wd_70) (fun _ h9 => h9) rfl (by decide +kernel) rfl rfl (Nat.le_of_ble_eq_true rfl) dX5_writeWord_70 (fun H locs hP hD hS => ?_)
    obtain ⟨hP, hD⟩ := nv_eq (ws' := [(h0, .inr (5, [.int 304, .int x3, .int x4, .int x5, .int x6, .int x7]))]) hP hD rfl
    refine lv_aload_n hx hb dX5_writeWord_73 rfl (lv_at hl 0 rfl) ?_
    refine lv_iload_n hx hb dX5_writeWord_74 rfl (lv_at hl 2 rfl) ?_
    refine va_put (D := (dC, dI)) (ci := 5) (v := .int x1) (ty := .int) (C := RX5) (T := TX5) (N := 6) hx hb hG inGX5 tyX5 tyX5_ok nmX5 hown hK hP hD hS 0 rfl rfl 1 (by decide) (hG _ wd_71) (fun _ h9 => h9) rfl (by decide +kernel) rfl rfl (Nat.le_of_ble_eq_true rfl) dX5_writeWord_75 (fun H locs hP hD hS => ?_)
    obtain ⟨hP, hD⟩ := nv_eq (ws' := [(h0, .inr (5, [.int 304, .int x1, .int x4, .int x5, .int x6, .int x7]))]) hP hD rfl
    refine lv_goto (tgt := 109) hx hb dX5_writeWord_78 (by decide) ?_
    exact j10 304 x1 x4 x5 x6 x7 _ _ hK hP hD hS ls (lv_sub hl [] rfl)
  · skip
    refine lv_tableIn (off := 108) (tgt := 109) hx hb dX5_writeWord_1 (by decide) (by decide) (by decide) (by decide) ?_
    exact j10 x2 x3 x4 x5 x6 x7 _ _ hK hP hD hS ls (lv_sub hl [] rfl)
  · skip
    refine lv_tableIn (off := 67) (tgt := 68) hx hb dX5_writeWord_1 (by decide) (by decide) (by decide) (by decide) ?_
    refine lv_aload_n hx hb dX5_writeWord_68 rfl (lv_at hl 0 rfl) ?_
    refine lv_iload_n hx hb dX5_writeWord_69 rfl (lv_at hl 1 rfl) ?_
    refine va_put (D := (dC, dI)) (ci := 5) (v := .int 306) (ty := .int) (C := RX5) (T := TX5) (N := 6) hx hb hG inGX5 tyX5 tyX5_ok nmX5 hown hK hP hD hS 0 rfl rfl 0 (by decide) (hG _ wd_70) (fun _ h9 => h9) rfl (by decide +kernel) rfl rfl (Nat.le_of_ble_eq_true rfl) dX5_writeWord_70 (fun H locs hP hD hS => ?_)
    obtain ⟨hP, hD⟩ := nv_eq (ws' := [(h0, .inr (5, [.int 306, .int x3, .int x4, .int x5, .int x6, .int x7]))]) hP hD rfl
    refine lv_aload_n hx hb dX5_writeWord_73 rfl (lv_at hl 0 rfl) ?_
    refine lv_iload_n hx hb dX5_writeWord_74 rfl (lv_at hl 2 rfl) ?_
    refine va_put (D := (dC, dI)) (ci := 5) (v := .int x1) (ty := .int) (C := RX5) (T := TX5) (N := 6) hx hb hG inGX5 tyX5 tyX5_ok nmX5 hown hK hP hD hS 0 rfl rfl 1 (by decide) (hG _ wd_71) (fun _ h9 => h9) rfl (by decide +kernel) rfl rfl (Nat.le_of_ble_eq_true rfl) dX5_writeWord_75 (fun H locs hP hD hS => ?_)
    obtain ⟨hP, hD⟩ := nv_eq (ws' := [(h0, .inr (5, [.int 306, .int x1, .int x4, .int x5, .int x6, .int x7]))]) hP hD rfl
    refine lv_goto (tgt := 109) hx hb dX5_writeWord_78 (by decide) ?_
    exact j10 306 x1 x4 x5 x6 x7 _ _ hK hP hD hS ls (lv_sub hl [] rfl)
  · skip
    refine lv_tableIn (off := 108) (tgt := 109) hx hb dX5_writeWord_1 (by decide) (by decide) (by decide) (by decide) ?_
    exact j10 x2 x3 x4 x5 x6 x7 _ _ hK hP hD hS ls (lv_sub hl [] rfl)
  · skip
    refine lv_tableIn (off := 67) (tgt := 68) hx hb dX5_writeWord_1 (by decide) (by decide) (by decide) (by decide) ?_
    refine lv_aload_n hx hb dX5_writeWord_68 rfl (lv_at hl 0 rfl) ?_
    refine lv_iload_n hx hb dX5_writeWord_69 rfl (lv_at hl 1 rfl) ?_
    refine va_put (D := (dC, dI)) (ci := 5) (v := .int 308) (ty := .int) (C := RX5) (T := TX5) (N := 6) hx hb hG inGX5 tyX5 tyX5_ok nmX5 hown hK hP hD hS 0 rfl rfl 0 (by decide) (hG _ wd_70) (fun _ h9 => h9) rfl (by decide +kernel) rfl rfl (Nat.le_of_ble_eq_true rfl) dX5_writeWord_70 (fun H locs hP hD hS => ?_)
    obtain ⟨hP, hD⟩ := nv_eq (ws' := [(h0, .inr (5, [.int 308, .int x3, .int x4, .int x5, .int x6, .int x7]))]) hP hD rfl
    refine lv_aload_n hx hb dX5_writeWord_73 rfl (lv_at hl 0 rfl) ?_
    refine lv_iload_n hx hb dX5_writeWord_74 rfl (lv_at hl 2 rfl) ?_
    refine va_put (D := (dC, dI)) (ci := 5) (v := .int x1) (ty := .int) (C := RX5) (T := TX5) (N := 6) hx hb hG inGX5 tyX5 tyX5_ok nmX5 hown hK hP hD hS 0 rfl rfl 1 (by decide) (hG _ wd_71) (fun _ h9 => h9) rfl (by decide +kernel) rfl rfl (Nat.le_of_ble_eq_true rfl) dX5_writeWord_75 (fun H locs hP hD hS => ?_)
    obtain ⟨hP, hD⟩ := nv_eq (ws' := [(h0, .inr (5, [.int 308, .int x1, .int x4, .int x5, .int x6, .int x7]))]) hP hD rfl
    refine lv_goto (tgt := 109) hx hb dX5_writeWord_78 (by decide) ?_
    exact j10 308 x1 x4 x5 x6 x7 _ _ hK hP hD hS ls (lv_sub hl [] rfl)
  · skip
    refine lv_tableIn (off := 108) (tgt := 109) hx hb dX5_writeWord_1 (by decide) (by decide) (by decide) (by decide) ?_
    exact j10 x2 x3 x4 x5 x6 x7 _ _ hK hP hD hS ls (lv_sub hl [] rfl)
  · skip
    refine lv_tableIn (off := 108) (tgt := 109) hx hb dX5_writeWord_1 (by decide) (by decide) (by decide) (by decide) ?_
    exact j10 x2 x3 x4 x5 x6 x7 _ _ hK hP hD hS ls (lv_sub hl [] rfl)
  · skip
    refine lv_tableIn (off := 108) (tgt := 109) hx hb dX5_writeWord_1 (by decide) (by decide) (by decide) (by decide) ?_
    exact j10 x2 x3 x4 x5 x6 x7 _ _ hK hP hD hS ls (lv_sub hl [] rfl)
  · skip
    refine lv_tableIn (off := 80) (tgt := 81) hx hb dX5_writeWord_1 (by decide) (by decide) (by decide) (by decide) ?_
    refine lv_aload_n hx hb dX5_writeWord_81 rfl (lv_at hl 0 rfl) ?_
    refine lv_iload_n hx hb dX5_writeWord_82 rfl (lv_at hl 2 rfl) ?_
    refine va_put (D := (dC, dI)) (ci := 5) (v := .int x1) (ty := .int) (C := RX5) (T := TX5) (N := 6) hx hb hG inGX5 tyX5 tyX5_ok nmX5 hown hK hP hD hS 0 rfl rfl 2 (by decide) (hG _ wd_72) (fun _ h9 => h9) rfl (by decide +kernel) rfl rfl (Nat.le_of_ble_eq_true rfl) dX5_writeWord_83 (fun H locs hP hD hS => ?_)
    obtain ⟨hP, hD⟩ := nv_eq (ws' := [(h0, .inr (5, [.int x2, .int x3, .int x1, .int x5, .int x6, .int x7]))]) hP hD rfl
    refine lv_aload_n hx hb dX5_writeWord_86 rfl (lv_at hl 0 rfl) ?_
    obtain ⟨hPc, hDc, hFc⟩ := nv_sub3 (wc := [(h0, .inr (5, [.int x2, .int x3, .int x1, .int x5, .int x6, .int x7]))]) hP hD hS hA [0] (by decide) rfl
    have hKc := hK.sub (tys' := []) [] rfl
    refine va_callv (va_runV (As := []) (rest := []) ⟨hx, hb, hml, hown, hG⟩ (cX5_multiply_1 l dC dI h0 H.size x2 x3 x1 x5 x6 x7) (cwV 0 hG (gV wd_754 wd_756 wp_29 wd_4 wd_757) rfl rfl rfl (by decide +kernel) ⟨Nat.le_of_ble_eq_true rfl, Nat.le_of_ble_eq_true rfl⟩) ⟨fun a U g mk q => by obtain ⟨q0, q1, qP, qK, qD⟩ := q; exact ⟨q0, q1, qP, va_K.moved (u := U) (U := U.calling g mk a) (Vm.Alike.refl U.vm) qK, qD⟩, va_recv hKc hPc (ci := 5) (q0 := 0) rfl rfl, fun U hU hW => ⟨rfl, by rw [hU], by rw [hU]; exact hPc, va_K.moved hW.alike hKc, hDc.weaken (fun _ _ _ _ => trivial)⟩⟩ rfl rfl hl.1 rfl (lv_room (Nat.le_of_ble_eq_true rfl)) dX5_writeWord_87 ⟨by decide, by decide⟩) hS (fun q _ h => hFc q h) hFc (fun u12 t H1 locs ht hvm hw hB hz1 hk1 hS => ?_)
    obtain ⟨u12_0, u12_1, u12_2, u12_3⟩ := u12
    have hw : iv u12_1 0 65535 ∧ iv u12_2 0 65535 ∧ iv u12_3 0 65535 ∧ True := hw
    obtain ⟨iu12_1, iu12_2, iu12_3, -⟩ := hw
    obtain ⟨hP1, hK1, hD1⟩ := hB
    rw [ht] at hP1
    have hK1 := va_K.moved hvm.symm hK1
    obtain ⟨hP, hD⟩ := nv_join (wf := [(h0, .inr (5, [.int u12_0, .int x3, .int x1, .int u12_1, .int u12_2, .int u12_3]))]) hP hD [0] [] rfl rfl (by decide) (by decide) hk1 hFc hP1 hD1 rfl
    have hK := (hK.sub (tys' := []) [] rfl).app hK1
    generalize H1 = H at hP hS ⊢
    have hK : va_K (dC, dI) vwCl [] s := hK
    refine lv_goto (tgt := 109) hx hb dX5_writeWord_90 (by decide) ?_
    exact j10 u12_0 x3 x1 u12_1 u12_2 u12_3 _ _ hK hP hD hS ls (lv_sub hl [] rfl)
  · skip
    refine lv_tableIn (off := 108) (tgt := 109) hx hb dX5_writeWord_1 (by decide) (by decide) (by decide) (by decide) ?_
    exact j10 x2 x3 x4 x5 x6 x7 _ _ hK hP hD hS ls (lv_sub hl [] rfl)
  · skip
    refine lv_tableIn (off := 92) (tgt := 93) hx hb dX5_writeWord_1 (by decide) (by decide) (by decide) (by decide) ?_
    refine lv_aload_n hx hb dX5_writeWord_93 rfl (lv_at hl 0 rfl) ?_
    refine lv_iload_n hx hb dX5_writeWord_94 rfl (lv_at hl 2 rfl) ?_
    refine va_put (D := (dC, dI)) (ci := 5) (v := .int x1) (ty := .int) (C := RX5) (T := TX5) (N := 6) hx hb hG inGX5 tyX5 tyX5_ok nmX5 hown hK hP hD hS 0 rfl rfl 3 (by decide) (hG _ wd_73) (fun _ h9 => h9) rfl (by decide +kernel) rfl rfl (Nat.le_of_ble_eq_true rfl) dX5_writeWord_95 (fun H locs hP hD hS => ?_)
    obtain ⟨hP, hD⟩ := nv_eq (ws' := [(h0, .inr (5, [.int x2, .int x3, .int x4, .int x1, .int x6, .int x7]))]) hP hD rfl
    refine lv_goto (tgt := 109) hx hb dX5_writeWord_98 (by decide) ?_
    exact j10 x2 x3 x4 x1 x6 x7 _ _ hK hP hD hS ls (lv_sub hl [] rfl)
  · skip
    refine lv_tableIn (off := 108) (tgt := 109) hx hb dX5_writeWord_1 (by decide) (by decide) (by decide) (by decide) ?_
    exact j10 x2 x3 x4 x5 x6 x7 _ _ hK hP hD hS ls (lv_sub hl [] rfl)
  · skip
    refine lv_tableIn (off := 100) (tgt := 101) hx hb dX5_writeWord_1 (by decide) (by decide) (by decide) (by decide) ?_
    refine lv_aload_n hx hb dX5_writeWord_101 rfl (lv_at hl 0 rfl) ?_
    refine lv_iload_n hx hb dX5_writeWord_102 rfl (lv_at hl 2 rfl) ?_
    refine va_put (D := (dC, dI)) (ci := 5) (v := .int x1) (ty := .int) (C := RX5) (T := TX5) (N := 6) hx hb hG inGX5 tyX5 tyX5_ok nmX5 hown hK hP hD hS 0 rfl rfl 4 (by decide) (hG _ wd_74) (fun _ h9 => h9) rfl (by decide +kernel) rfl rfl (Nat.le_of_ble_eq_true rfl) dX5_writeWord_103 (fun H locs hP hD hS => ?_)
    obtain ⟨hP, hD⟩ := nv_eq (ws' := [(h0, .inr (5, [.int x2, .int x3, .int x4, .int x5, .int x1, .int x7]))]) hP hD rfl
    refine lv_goto (tgt := 109) hx hb dX5_writeWord_106 (by decide) ?_
    exact j10 x2 x3 x4 x5 x1 x7 _ _ hK hP hD hS ls (lv_sub hl [] rfl)
set_option maxHeartbeats 100000000 in
set_option maxRecDepth 100000 in
theorem cX9_takeVector_1 (l : Launch) (dC : Nat → ClassId) (dI : Nat → Nat → Nat) (h0 h1 h2 : Nat) (y0 : ClassId) (sz : Nat) (x0 x1 x2 x3 : Int32) (f0 : Nat → Int32) (ix3 : iv x3 0 1) : Met l yX9_takeVector (Cond.code yX9_takeVector cX9_takeVector 2 (some .int) :: lw_G) ({ frames := 1, cells := 0, slots := 0, locals := 20 }) (va_Pc [.ref h0] (fun U => U.heap.size = sz ∧ va_P (dC, dI) vwCl [(h0, .inr (9, [.ref h1, .ref h2, .int x0, .int x1, .int x2, .int x3])), (h1, .inl (y0, 3, .inl f0))] U.heap ∧ va_K (dC, dI) vwCl [(y0, .int)] U ∧ va_D (fun _ => True) [(h0, .inr (9, [.ref h1, .ref h2, .int x0, .int x1, .int x2, .int x3])), (h1, .inl (y0, 3, .inl f0))])) (va_Qi (fun (r : Int32) (u : Int32 × (Nat → Int32)) => iv r 0 10 ∧ True) (fun (u : Int32 × (Nat → Int32)) (t : State) => va_P (dC, dI) vwCl [(h0, .inr (9, [.ref h1, .ref h2, .int u.1, .int x1, .int x2, .int x3])), (h1, .inl (y0, 3, .inl u.2))] t.heap ∧ va_K (dC, dI) vwCl [(y0, .int)] t ∧ va_D (va_A [(h0, .inr (9, [.ref h1, .ref h2, .int x0, .int x1, .int x2, .int x3])), (h1, .inl (y0, 3, .inl f0))] sz) [(h0, .inr (9, [.ref h1, .ref h2, .int u.1, .int x1, .int x2, .int x3])), (h1, .inl (y0, 3, .inl u.2))]) (va_A [(h0, .inr (9, [.ref h1, .ref h2, .int x0, .int x1, .int x2, .int x3])), (h1, .inl (y0, 3, .inl f0))] sz)) 0 0 (va_A [(h0, .inr (9, [.ref h1, .ref h2, .int x0, .int x1, .int x2, .int x3])), (h1, .inl (y0, 3, .inl f0))] sz) := by
  refine Met.ofW (cc := cX9_takeVector) (maxL := 2) (ret := (some .int)) (by decide) rfl ?_
  intro p e s m args below meth c s₁ B hml hv
  obtain ⟨rfl, hsz, hP, hK, hD0⟩ := hv
  have hx := B.exec
  have hb := B.bytes
  have hr := B.returns
  have hts0 := atoms_spec (ws := Cond.code yX9_takeVector cX9_takeVector 2 (some .int) :: lw_G) B.pre
  have hG : ∀ w ∈ lw_G, w.before _ s = true := fun w h => hts0 w (List.mem_cons_of_mem _ h)
  have hown : s.vm.findClass RX9 = some m.cls := findClass_of_methodNamed B.named
  have hlocks := B.notSynchronized
  subst hsz
  have hD := hD0.self (sz := s.heap.size)
  generalize hAe : va_A [(h0, .inr (9, [.ref h1, .ref h2, .int x0, .int x1, .int x2, .int x3])), (h1, .inl (y0, 3, .inl f0))] s.heap.size = A at hD ⊢
  have hA : ∀ q : Nat, s.heap.size ≤ q → A q := fun q h => by rw [← hAe]; exact Or.inr h
  have hS : va_S A s.heap s.heap [] := va_S.rf
  have hP : va_P (dC, dI) vwCl [(h0, .inr (9, [.ref h1, .ref h2, .int x0, .int x1, .int x2, .int x3])), (h1, .inl (y0, 3, .inl f0))] s.heap := hP
  have hl := lv_entry ([.ref h0]) (n := 2) (Nat.le_of_ble_eq_true rfl)
  rw [lg_entry_eq]
  generalize (lg_sl ([.ref h0]) ++ List.replicate (2 - (lg_sl ([.ref h0])).length) Slot.unset).toArray = ls at hl ⊢
  have hl : lv_has ls 2 [(0, .ref h0)] := hl
  generalize ([.ref h0] : List Value).toArray = ar at hG ⊢
  refine wq (fun Q hQ => ?_)
  refine lv_aload_n hx hb dX9_takeVector_0 rfl (lv_at hl 0 rfl) ?_
  obtain ⟨hPc, hDc, hFc⟩ := nv_sub3 (wc := [(h0, .inr (9, [.ref h1, .ref h2, .int x0, .int x1, .int x2, .int x3])), (h1, .inl (y0, 3, .inl f0))]) hP hD hS hA [0, 1] (by decide) rfl
  have hKc := hK.sub (tys' := [(y0, .int)]) [0] rfl
  refine va_calli (va_runV (As := []) (rest := []) ⟨hx, hb, hml, hown, hG⟩ (cX9_vector_1 l dC dI h0 h1 h2 y0 s.heap.size x0 x1 x2 x3 f0 ix3) (cwV 0 hG (gV wd_749 wd_729 wd_730 wd_5 wd_731) rfl rfl rfl (by decide +kernel) ⟨Nat.le_of_ble_eq_true rfl, Nat.le_of_ble_eq_true rfl⟩) ⟨fun a U g mk q => by obtain ⟨q0, q1, qP, qK, qD⟩ := q; exact ⟨q0, q1, qP, va_K.moved (u := U) (U := U.calling g mk a) (Vm.Alike.refl U.vm) qK, qD⟩, va_recv hKc hPc (ci := 9) (q0 := 0) rfl rfl, fun U hU hW => ⟨rfl, by rw [hU], by rw [hU]; exact hPc, va_K.moved hW.alike hKc, hDc.weaken (fun _ _ _ _ => trivial)⟩⟩ rfl rfl hl.1 rfl (lv_room (Nat.le_of_ble_eq_true rfl)) dX9_takeVector_1 ⟨by decide, by decide⟩) hS (fun q _ h => hFc q h) hFc (fun r1 u2 t H1 locs ht hvm hw hB hz1 hk1 hS => ?_)
  have hw : iv r1 0 10 ∧ True := hw
  obtain ⟨ir1, -⟩ := hw
  obtain ⟨hP1, hK1, hD1⟩ := hB
  rw [ht] at hP1
  have hK1 := va_K.moved hvm.symm hK1
  obtain ⟨hP, hD⟩ := nv_join (wf := [(h0, .inr (9, [.ref h1, .ref h2, .int x0, .int x1, .int x2, .int x3])), (h1, .inl (y0, 3, .inl f0))]) hP hD [0, 1] [] rfl rfl (by decide) (by decide) hk1 hFc hP1 hD1 rfl
  have hK := (hK.sub (tys' := []) [] rfl).app hK1
  generalize H1 = H at hP hS ⊢
  have hK : va_K (dC, dI) vwCl [(y0, .int)] s := hK
  refine lv_istore_n (lv' := [(1, .int r1), (0, .ref h0)]) hx hb dX9_takeVector_4 rfl hl (by decide) rfl (fun ls hl => ?_)
  refine lv_iload_n hx hb dX9_takeVector_5 rfl (lv_at hl 0 rfl) ?_
  refine lv_iconst (v := 2) hx hb dX9_takeVector_6 (by decide) ?_
  refine jcut (a := ∀ (b14 : Int32) (b15 : Int32) (b16 : Nat → Int32) (ib14 : iv b14 0 10) (H : Heap) (locs : List Loc) (hK : va_K (dC, dI) vwCl [(y0, .int)] s) (hP : va_P (dC, dI) vwCl [(h0, .inr (9, [.ref h1, .ref h2, .int b15, .int x1, .int x2, .int x3])), (h1, .inl (y0, 3, .inl b16))] H) (hD : va_D A [(h0, .inr (9, [.ref h1, .ref h2, .int b15, .int x1, .int x2, .int x3])), (h1, .inl (y0, 3, .inl b16))]) (hS : va_S A s.heap H locs) (ls : Array Slot) (hl : lv_has ls 2 [(1, .int b14)]), W p l e (headSpec (Cond.code yX9_takeVector cX9_takeVector 2 (some .int) :: lw_G) ({ frames := 1, cells := 0, slots := 0, locals := 20 })).room s m ar below meth c H locs 0 0 Q (F0 m 60 ls [])) ?_ (fun j17 => ?_)
  · skip
    intro b14 b15 b16 ib14 H locs hK hP hD hS ls hl
    refine lv_iload_n hx hb dX9_takeVector_60 rfl (lv_at hl 0 rfl) ?_
    rw [hQ]
    obtain ⟨hP9, hD9⟩ := nv_sub2 (wc := [(h0, .inr (9, [.ref h1, .ref h2, .int b15, .int x1, .int x2, .int x3])), (h1, .inl (y0, 3, .inl b16))]) hP hD [0, 1] (by decide) rfl
    have hK9 := hK.sub (tys' := [(y0, .int)]) [0] rfl
    exact W.iret (v := b14) hx hb hr (fun t ht hW => ⟨⟨b14, (b15, b16), rfl, ⟨iv_w ib14 (by decide) (by decide), trivial⟩, by rw [ht]; exact hP9, va_K.moved hW.alike hK9, hD9⟩, hS.F ht⟩) hS.2.2 dX9_takeVector_61
  refine lv_icmp_ne (tgt := 24) hx hb dX9_takeVector_7 (by decide) (fun c3 => ?_) (fun c3 => ?_)
  · skip
    refine lv_iload_n hx hb dX9_takeVector_24 rfl (lv_at hl 0 rfl) ?_
    refine lv_iconst (v := 4) hx hb dX9_takeVector_25 (by decide) ?_
    refine lv_icmp_ne (tgt := 43) hx hb dX9_takeVector_26 (by decide) (fun c18 => ?_) (fun c18 => ?_)
    · skip
      refine lv_iload_n hx hb dX9_takeVector_43 rfl (lv_at hl 0 rfl) ?_
      refine lv_bipush (v := 10) hx hb dX9_takeVector_44 (by decide) ?_
      refine lv_icmp_ne (tgt := 60) hx hb dX9_takeVector_46 (by decide) (fun c19 => ?_) (fun c19 => ?_)
      · skip
        have j20 : iv r1 0 9 := iv_neHi ir1 (by decide : iv 10 10 10) c19 (by decide)
        exact j17 r1 x0 f0 (iv_w j20 (by decide) (by decide)) _ _ hK hP hD hS ls (lv_sub hl [0] rfl)
      · skip
        subst c19
        refine lv_aload_n hx hb dX9_takeVector_49 rfl (lv_at hl 1 rfl) ?_
        refine lv_dup hx hb dX9_takeVector_50 rfl ?_
        refine va_get (D := (dC, dI)) (ci := 9) (v := .int x0) (C := RX9) (T := TX9) (N := 6) hx hb hG inGX9 hown hK hP 0 rfl rfl 2 (by decide) (hG _ wd_97) (fun _ h9 => h9) rfl dX9_takeVector_51 ?_
        refine lv_bipush (v := (-2)) hx hb dX9_takeVector_54 (by decide) ?_
        refine lv_iand hx hb dX9_takeVector_56 ?_
        refine lv_topi (fun v21 ev21 => ?_)
        refine va_put (D := (dC, dI)) (ci := 9) (v := .int v21) (ty := .int) (C := RX9) (T := TX9) (N := 6) hx hb hG inGX9 tyX9 tyX9_ok nmX9 hown hK hP hD hS 0 rfl rfl 2 (by decide) (hG _ wd_97) (fun _ h9 => h9) rfl (by decide +kernel) rfl rfl (Nat.le_of_ble_eq_true rfl) dX9_takeVector_57 (fun H locs hP hD hS => ?_)
        obtain ⟨hP, hD⟩ := nv_eq (ws' := [(h0, .inr (9, [.ref h1, .ref h2, .int v21, .int x1, .int x2, .int x3])), (h1, .inl (y0, 3, .inl f0))]) hP hD rfl
        exact j17 10 v21 f0 (iv_w (by decide : iv 10 10 10) (by decide) (by decide)) _ _ hK hP hD hS ls (lv_sub hl [0] rfl)
    · skip
      subst c18
      refine lv_aload_n hx hb dX9_takeVector_29 rfl (lv_at hl 1 rfl) ?_
      refine va_get (D := (dC, dI)) (ci := 9) (v := .ref h1) (C := RX9) (T := TX9) (N := 6) hx hb hG inGX9 hown hK hP 0 rfl rfl 0 (by decide) (hG _ wd_95) (fun _ h9 => h9) rfl dX9_takeVector_30 ?_
      refine lv_iconst (v := 2) hx hb dX9_takeVector_33 (by decide) ?_
      refine lv_dup2_11 hx hb dX9_takeVector_34 rfl rfl ?_
      refine va_iald hx hb hK hP 1 0 rfl rfl (iv_in (by decide : iv 2 2 2) (by decide) (by decide) : vp_in 2 3) dX9_takeVector_35 ?_
      refine lv_topi (fun v22 ev22 => ?_)
      refine lv_bipush (v := (-2)) hx hb dX9_takeVector_36 (by decide) ?_
      refine lv_iand hx hb dX9_takeVector_38 ?_
      refine lv_topi (fun v23 ev23 => ?_)
      refine va_iast hx hb hK hP hD hS 1 0 rfl rfl (iv_in (by decide : iv 2 2 2) (by decide) (by decide) : vp_in 2 3) dX9_takeVector_39 (fun H locs hP hD hS => ?_)
      obtain ⟨nf24, enf24⟩ : ∃ z, z = upd f0 (2 : Int32).toNatClampNeg v23 := ⟨_, rfl⟩
      obtain ⟨hP, hD⟩ := nv_eq (ws' := [(h0, .inr (9, [.ref h1, .ref h2, .int x0, .int x1, .int x2, .int x3])), (h1, .inl (y0, 3, .inl nf24))]) hP hD (by subst enf24; rfl)
      refine lv_goto (tgt := 60) hx hb dX9_takeVector_40 (by decide) ?_
      exact j17 4 x0 nf24 (iv_w (by decide : iv 4 4 4) (by decide) (by decide)) _ _ hK hP hD hS ls (lv_sub hl [0] rfl)
  · skip
    subst c3
    refine lv_aload_n hx hb dX9_takeVector_10 rfl (lv_at hl 1 rfl) ?_
    refine va_get (D := (dC, dI)) (ci := 9) (v := .ref h1) (C := RX9) (T := TX9) (N := 6) hx hb hG inGX9 hown hK hP 0 rfl rfl 0 (by decide) (hG _ wd_95) (fun _ h9 => h9) rfl dX9_takeVector_11 ?_
    refine lv_iconst (v := 1) hx hb dX9_takeVector_14 (by decide) ?_
    refine lv_dup2_11 hx hb dX9_takeVector_15 rfl rfl ?_
    refine va_iald hx hb hK hP 1 0 rfl rfl (iv_in (by decide : iv 1 1 1) (by decide) (by decide) : vp_in 1 3) dX9_takeVector_16 ?_
    refine lv_topi (fun v25 ev25 => ?_)
    refine lv_bipush (v := (-2)) hx hb dX9_takeVector_17 (by decide) ?_
    refine lv_iand hx hb dX9_takeVector_19 ?_
    refine lv_topi (fun v26 ev26 => ?_)
    refine va_iast hx hb hK hP hD hS 1 0 rfl rfl (iv_in (by decide : iv 1 1 1) (by decide) (by decide) : vp_in 1 3) dX9_takeVector_20 (fun H locs hP hD hS => ?_)
    obtain ⟨nf27, enf27⟩ : ∃ z, z = upd f0 (1 : Int32).toNatClampNeg v26 := ⟨_, rfl⟩
    obtain ⟨hP, hD⟩ := nv_eq (ws' := [(h0, .inr (9, [.ref h1, .ref h2, .int x0, .int x1, .int x2, .int x3])), (h1, .inl (y0, 3, .inl nf27))]) hP hD (by subst enf27; rfl)
    refine lv_goto (tgt := 60) hx hb dX9_takeVector_21 (by decide) ?_
    exact j17 2 x0 nf27 (iv_w (by decide : iv 2 2 2) (by decide) (by decide)) _ _ hK hP hD hS ls (lv_sub hl [0] rfl)
set_option maxHeartbeats 100000000 in
set_option maxRecDepth 100000 in
theorem cX1_writeThing_1 (l : Launch) (dC : Nat → ClassId) (dI : Nat → Nat → Nat) (h0 h1 h2 h3 h4 h5 h6 : Nat) (y0 y1 : ClassId) (sz : Nat) (x0 x1 x2 x3 x4 x5 x6 x7 x8 x9 x10 x11 : Int32) (f0 f1 : Nat → Int32) (ix5 : iv x5 0 1) : Met l yX1_writeThing (Cond.code yX1_writeThing cX1_writeThing 3 none :: lw_G) ({ frames := 2, cells := 0, slots := 0, locals := 44 }) (va_Pc [.ref h0, .int x0, .int x1] (fun U => U.heap.size = sz ∧ va_P (dC, dI) vwCl [(h0, .inr (1, [.ref h1, .ref h2, .ref h3, .ref h4])), (h4, .inr (9, [.ref h5, .ref h6, .int x2, .int x3, .int x4, .int x5])), (h6, .inl (y0, 3, .inl f0)), (h5, .inl (y1, 3, .inl f1)), (h3, .inr (5, [.int x6, .int x7, .int x8, .int x9, .int x10, .int x11]))] U.heap ∧ va_K (dC, dI) vwCl [(y0, .int), (y1, .int)] U ∧ va_D (fun _ => True) [(h0, .inr (1, [.ref h1, .ref h2, .ref h3, .ref h4])), (h4, .inr (9, [.ref h5, .ref h6, .int x2, .int x3, .int x4, .int x5])), (h6, .inl (y0, 3, .inl f0)), (h5, .inl (y1, 3, .inl f1)), (h3, .inr (5, [.int x6, .int x7, .int x8, .int x9, .int x10, .int x11]))])) (va_Qv (fun (u : Int32 × Int32 × Int32 × Int32 × (Nat → Int32) × (Nat → Int32) × Int32 × Int32 × Int32 × Int32 × Int32 × Int32) => iv u.2.2.2.1 0 1 ∧ True) (fun (u : Int32 × Int32 × Int32 × Int32 × (Nat → Int32) × (Nat → Int32) × Int32 × Int32 × Int32 × Int32 × Int32 × Int32) (t : State) => va_P (dC, dI) vwCl [(h0, .inr (1, [.ref h1, .ref h2, .ref h3, .ref h4])), (h4, .inr (9, [.ref h5, .ref h6, .int u.1, .int u.2.1, .int u.2.2.1, .int u.2.2.2.1])), (h6, .inl (y0, 3, .inl u.2.2.2.2.1)), (h5, .inl (y1, 3, .inl u.2.2.2.2.2.1)), (h3, .inr (5, [.int u.2.2.2.2.2.2.1, .int u.2.2.2.2.2.2.2.1, .int u.2.2.2.2.2.2.2.2.1, .int u.2.2.2.2.2.2.2.2.2.1, .int u.2.2.2.2.2.2.2.2.2.2.1, .int u.2.2.2.2.2.2.2.2.2.2.2]))] t.heap ∧ va_K (dC, dI) vwCl [(y0, .int), (y1, .int)] t ∧ va_D (va_A [(h0, .inr (1, [.ref h1, .ref h2, .ref h3, .ref h4])), (h4, .inr (9, [.ref h5, .ref h6, .int x2, .int x3, .int x4, .int x5])), (h6, .inl (y0, 3, .inl f0)), (h5, .inl (y1, 3, .inl f1)), (h3, .inr (5, [.int x6, .int x7, .int x8, .int x9, .int x10, .int x11]))] sz) [(h0, .inr (1, [.ref h1, .ref h2, .ref h3, .ref h4])), (h4, .inr (9, [.ref h5, .ref h6, .int u.1, .int u.2.1, .int u.2.2.1, .int u.2.2.2.1])), (h6, .inl (y0, 3, .inl u.2.2.2.2.1)), (h5, .inl (y1, 3, .inl u.2.2.2.2.2.1)), (h3, .inr (5, [.int u.2.2.2.2.2.2.1, .int u.2.2.2.2.2.2.2.1, .int u.2.2.2.2.2.2.2.2.1, .int u.2.2.2.2.2.2.2.2.2.1, .int u.2.2.2.2.2.2.2.2.2.2.1, .int u.2.2.2.2.2.2.2.2.2.2.2]))]) (va_A [(h0, .inr (1, [.ref h1, .ref h2, .ref h3, .ref h4])), (h4, .inr (9, [.ref h5, .ref h6, .int x2, .int x3, .int x4, .int x5])), (h6, .inl (y0, 3, .inl f0)), (h5, .inl (y1, 3, .inl f1)), (h3, .inr (5, [.int x6, .int x7, .int x8, .int x9, .int x10, .int x11]))] sz)) 0 0 (va_A [(h0, .inr (1, [.ref h1, .ref h2, .ref h3, .ref h4])), (h4, .inr (9, [.ref h5, .ref h6, .int x2, .int x3, .int x4, .int x5])), (h6, .inl (y0, 3, .inl f0)), (h5, .inl (y1, 3, .inl f1)), (h3, .inr (5, [.int x6, .int x7, .int x8, .int x9, .int x10, .int x11]))] sz) := by
  refine Met.ofW (cc := cX1_writeThing) (maxL := 3) (ret := none) (by decide) rfl ?_
  intro p e s m args below meth c s₁ B hml hv
  obtain ⟨rfl, hsz, hP, hK, hD0⟩ := hv
  have hx := B.exec
  have hb := B.bytes
  have hr := B.returns
  have hts0 := atoms_spec (ws := Cond.code yX1_writeThing cX1_writeThing 3 none :: lw_G) B.pre
  have hG : ∀ w ∈ lw_G, w.before _ s = true := fun w h => hts0 w (List.mem_cons_of_mem _ h)
  have hown : s.vm.findClass RX1 = some m.cls := findClass_of_methodNamed B.named
  have hlocks := B.notSynchronized
  subst hsz
  have hD := hD0.self (sz := s.heap.size)
  generalize hAe : va_A [(h0, .inr (1, [.ref h1, .ref h2, .ref h3, .ref h4])), (h4, .inr (9, [.ref h5, .ref h6, .int x2, .int x3, .int x4, .int x5])), (h6, .inl (y0, 3, .inl f0)), (h5, .inl (y1, 3, .inl f1)), (h3, .inr (5, [.int x6, .int x7, .int x8, .int x9, .int x10, .int x11]))] s.heap.size = A at hD ⊢
  have hA : ∀ q : Nat, s.heap.size ≤ q → A q := fun q h => by rw [← hAe]; exact Or.inr h
  have hS : va_S A s.heap s.heap [] := va_S.rf
  have hP : va_P (dC, dI) vwCl [(h0, .inr (1, [.ref h1, .ref h2, .ref h3, .ref h4])), (h4, .inr (9, [.ref h5, .ref h6, .int x2, .int x3, .int x4, .int x5])), (h6, .inl (y0, 3, .inl f0)), (h5, .inl (y1, 3, .inl f1)), (h3, .inr (5, [.int x6, .int x7, .int x8, .int x9, .int x10, .int x11]))] s.heap := hP
  have hl := lv_entry ([.ref h0, .int x0, .int x1]) (n := 3) (Nat.le_of_ble_eq_true rfl)
  rw [lg_entry_eq]
  generalize (lg_sl ([.ref h0, .int x0, .int x1]) ++ List.replicate (3 - (lg_sl ([.ref h0, .int x0, .int x1])).length) Slot.unset).toArray = ls at hl ⊢
  have hl : lv_has ls 3 [(0, .ref h0), (1, .int x0), (2, .int x1)] := hl
  generalize ([.ref h0, .int x0, .int x1] : List Value).toArray = ar at hG ⊢
  refine wq (fun Q hQ => ?_)
  refine lv_iload_n hx hb dX1_writeThing_0 rfl (lv_at hl 1 rfl) ?_
  refine lv_sipush (v := 302) hx hb dX1_writeThing_1 (by decide) ?_
  refine jcut (a := ∀ (b16 : Int32) (b17 : Int32) (b18 : Int32) (b19 : Int32) (b20 : Int32) (b21 : Int32) (b22 : Int32) (b23 : Int32) (b24 : Int32) (b25 : Int32) (b26 : Nat → Int32) (b27 : Nat → Int32) (ib25 : iv b25 0 1) (H : Heap) (locs : List Loc) (hK : va_K (dC, dI) vwCl [(y0, .int), (y1, .int)] s) (hP : va_P (dC, dI) vwCl [(h0, .inr (1, [.ref h1, .ref h2, .ref h3, .ref h4])), (h3, .inr (5, [.int b16, .int b17, .int b18, .int b19, .int b20, .int b21])), (h4, .inr (9, [.ref h5, .ref h6, .int b22, .int b23, .int b24, .int b25])), (h6, .inl (y0, 3, .inl b26)), (h5, .inl (y1, 3, .inl b27))] H) (hD : va_D A [(h0, .inr (1, [.ref h1, .ref h2, .ref h3, .ref h4])), (h3, .inr (5, [.int b16, .int b17, .int b18, .int b19, .int b20, .int b21])), (h4, .inr (9, [.ref h5, .ref h6, .int b22, .int b23, .int b24, .int b25])), (h6, .inl (y0, 3, .inl b26)), (h5, .inl (y1, 3, .inl b27))]) (hS : va_S A s.heap H locs) (ls : Array Slot) (hl : lv_has ls 3 []), W p l e (headSpec (Cond.code yX1_writeThing cX1_writeThing 3 none :: lw_G) ({ frames := 2, cells := 0, slots := 0, locals := 44 })).room s m ar below meth c H locs 0 0 Q (F0 m 53 ls [])) ?_ (fun j28 => ?_)
  · skip
    intro b16 b17 b18 b19 b20 b21 b22 b23 b24 b25 b26 b27 ib25 H locs hK hP hD hS ls hl
    rw [hQ]
    obtain ⟨hP9, hD9⟩ := nv_sub2 (wc := [(h0, .inr (1, [.ref h1, .ref h2, .ref h3, .ref h4])), (h4, .inr (9, [.ref h5, .ref h6, .int b22, .int b23, .int b24, .int b25])), (h6, .inl (y0, 3, .inl b26)), (h5, .inl (y1, 3, .inl b27)), (h3, .inr (5, [.int b16, .int b17, .int b18, .int b19, .int b20, .int b21]))]) hP hD [0, 2, 3, 4, 1] (by decide) rfl
    have hK9 := hK.sub (tys' := [(y0, .int), (y1, .int)]) [0, 1] rfl
    exact W.vret hx hb hr (fun t ht hW => ⟨⟨(b22, b23, b24, b25, b26, b27, b16, b17, b18, b19, b20, b21), rfl, ⟨iv_w ib25 (by decide) (by decide), trivial⟩, by rw [ht]; exact hP9, va_K.moved hW.alike hK9, hD9⟩, hS.F ht⟩) hS.2.2 dX1_writeThing_53
  refine lv_icmp_ne (tgt := 18) hx hb dX1_writeThing_4 (by decide) (fun c1 => ?_) (fun c1 => ?_)
  · skip
    refine lv_iload_n hx hb dX1_writeThing_18 rfl (lv_at hl 1 rfl) ?_
    refine lv_sipush (v := 304) hx hb dX1_writeThing_19 (by decide) ?_
    refine lv_icmp_lt (tgt := 44) hx hb dX1_writeThing_22 (by decide) (fun c29 => ?_) (fun c29 => ?_)
    · skip
      have j30 : iv x0 (-2147483648) 303 := iv_ltL (iv_any x0) (by decide : iv 304 304 304) c29 (by decide)
      refine lv_aload_n hx hb dX1_writeThing_44 rfl (lv_at hl 0 rfl) ?_
      refine va_get (D := (dC, dI)) (ci := 1) (v := .ref h4) (C := RX1) (T := TX1) (N := 4) hx hb hG inGX1 hown hK hP 0 rfl rfl 3 (by decide) (hG _ wd_117) (fun _ h9 => h9) rfl dX1_writeThing_45 ?_
      refine lv_iload_n hx hb dX1_writeThing_48 rfl (lv_at hl 1 rfl) ?_
      refine lv_iload_n hx hb dX1_writeThing_49 rfl (lv_at hl 2 rfl) ?_
      obtain ⟨hPc, hDc, hFc⟩ := nv_sub3 (wc := [(h4, .inr (9, [.ref h5, .ref h6, .int x2, .int x3, .int x4, .int x5])), (h6, .inl (y0, 3, .inl f0)), (h5, .inl (y1, 3, .inl f1))]) hP hD hS hA [1, 2, 3] (by decide) rfl
      have hKc := hK.sub (tys' := [(y0, .int), (y1, .int)]) [0, 1] rfl
      refine va_callv (va_runV (As := [.int x0, .int x1]) (rest := []) ⟨hx, hb, hml, hown, hG⟩ (cX9_writeWord_1 l dC dI h4 h5 h6 y0 y1 s.heap.size x0 x1 x2 x3 x4 x5 f0 f1 ix5) (cwV 2 hG (gV wd_759 wd_760 wd_761 wd_5 wd_762) rfl rfl rfl (by decide +kernel) ⟨Nat.le_of_ble_eq_true rfl, Nat.le_of_ble_eq_true rfl⟩) ⟨fun a U g mk q => by obtain ⟨q0, q1, qP, qK, qD⟩ := q; exact ⟨q0, q1, qP, va_K.moved (u := U) (U := U.calling g mk a) (Vm.Alike.refl U.vm) qK, qD⟩, va_recv hKc hPc (ci := 9) (q0 := 0) rfl rfl, fun U hU hW => ⟨rfl, by rw [hU], by rw [hU]; exact hPc, va_K.moved hW.alike hKc, hDc.weaken (fun _ _ _ _ => trivial)⟩⟩ rfl rfl hl.1 rfl (lv_room (Nat.le_of_ble_eq_true rfl)) dX1_writeThing_50 ⟨by decide, by decide⟩) hS (fun q _ h => hFc q h) hFc (fun u32 t H1 locs ht hvm hw hB hz1 hk1 hS => ?_)
      obtain ⟨u32_0, u32_1, u32_2, u32_3, u32_4, u32_5⟩ := u32
      have hw : iv u32_3 0 1 ∧ True := hw
      obtain ⟨iu32_3, -⟩ := hw
      obtain ⟨hP1, hK1, hD1⟩ := hB
      rw [ht] at hP1
      have hK1 := va_K.moved hvm.symm hK1
      obtain ⟨hP, hD⟩ := nv_join (wf := [(h0, .inr (1, [.ref h1, .ref h2, .ref h3, .ref h4])), (h3, .inr (5, [.int x6, .int x7, .int x8, .int x9, .int x10, .int x11])), (h4, .inr (9, [.ref h5, .ref h6, .int u32_0, .int u32_1, .int u32_2, .int u32_3])), (h6, .inl (y0, 3, .inl u32_4)), (h5, .inl (y1, 3, .inl u32_5))]) hP hD [1, 2, 3] [0, 4] rfl rfl (by decide) (by decide) hk1 hFc hP1 hD1 rfl
      have hK := (hK.sub (tys' := []) [] rfl).app hK1
      generalize H1 = H at hP hS ⊢
      have hK : va_K (dC, dI) vwCl [(y0, .int), (y1, .int)] s := hK
      exact j28 x6 x7 x8 x9 x10 x11 u32_0 u32_1 u32_2 u32_3 u32_4 u32_5 iu32_3 _ _ hK hP hD hS ls (lv_sub hl [] rfl)
    · skip
      have j33 : iv x0 304 2147483647 := iv_nltL (iv_any x0) (by decide : iv 304 304 304) c29 (by decide)
      refine lv_iload_n hx hb dX1_writeThing_25 rfl (lv_at hl 1 rfl) ?_
      refine lv_sipush (v := 318) hx hb dX1_writeThing_26 (by decide) ?_
      refine lv_icmp_gt (tgt := 44) hx hb dX1_writeThing_29 (by decide) (fun c34 => ?_) (fun c34 => ?_)
      · skip
        have j35 : iv x0 319 2147483647 := iv_ltR (by decide : iv 318 318 318) j33 c34 (by decide)
        refine lv_aload_n hx hb dX1_writeThing_44 rfl (lv_at hl 0 rfl) ?_
        refine va_get (D := (dC, dI)) (ci := 1) (v := .ref h4) (C := RX1) (T := TX1) (N := 4) hx hb hG inGX1 hown hK hP 0 rfl rfl 3 (by decide) (hG _ wd_117) (fun _ h9 => h9) rfl dX1_writeThing_45 ?_
        refine lv_iload_n hx hb dX1_writeThing_48 rfl (lv_at hl 1 rfl) ?_
        refine lv_iload_n hx hb dX1_writeThing_49 rfl (lv_at hl 2 rfl) ?_
        obtain ⟨hPc, hDc, hFc⟩ := nv_sub3 (wc := [(h4, .inr (9, [.ref h5, .ref h6, .int x2, .int x3, .int x4, .int x5])), (h6, .inl (y0, 3, .inl f0)), (h5, .inl (y1, 3, .inl f1))]) hP hD hS hA [1, 2, 3] (by decide) rfl
        have hKc := hK.sub (tys' := [(y0, .int), (y1, .int)]) [0, 1] rfl
        refine va_callv (va_runV (As := [.int x0, .int x1]) (rest := []) ⟨hx, hb, hml, hown, hG⟩ (cX9_writeWord_1 l dC dI h4 h5 h6 y0 y1 s.heap.size x0 x1 x2 x3 x4 x5 f0 f1 ix5) (cwV 2 hG (gV wd_759 wd_760 wd_761 wd_5 wd_762) rfl rfl rfl (by decide +kernel) ⟨Nat.le_of_ble_eq_true rfl, Nat.le_of_ble_eq_true rfl⟩) ⟨fun a U g mk q => by obtain ⟨q0, q1, qP, qK, qD⟩ := q; exact ⟨q0, q1, qP, va_K.moved (u := U) (U := U.calling g mk a) (Vm.Alike.refl U.vm) qK, qD⟩, va_recv hKc hPc (ci := 9) (q0 := 0) rfl rfl, fun U hU hW => ⟨rfl, by rw [hU], by rw [hU]; exact hPc, va_K.moved hW.alike hKc, hDc.weaken (fun _ _ _ _ => trivial)⟩⟩ rfl rfl hl.1 rfl (lv_room (Nat.le_of_ble_eq_true rfl)) dX1_writeThing_50 ⟨by decide, by decide⟩) hS (fun q _ h => hFc q h) hFc (fun u37 t H1 locs ht hvm hw hB hz1 hk1 hS => ?_)
        obtain ⟨u37_0, u37_1, u37_2, u37_3, u37_4, u37_5⟩ := u37
        have hw : iv u37_3 0 1 ∧ True := hw
        obtain ⟨iu37_3, -⟩ := hw
        obtain ⟨hP1, hK1, hD1⟩ := hB
        rw [ht] at hP1
        have hK1 := va_K.moved hvm.symm hK1
        obtain ⟨hP, hD⟩ := nv_join (wf := [(h0, .inr (1, [.ref h1, .ref h2, .ref h3, .ref h4])), (h3, .inr (5, [.int x6, .int x7, .int x8, .int x9, .int x10, .int x11])), (h4, .inr (9, [.ref h5, .ref h6, .int u37_0, .int u37_1, .int u37_2, .int u37_3])), (h6, .inl (y0, 3, .inl u37_4)), (h5, .inl (y1, 3, .inl u37_5))]) hP hD [1, 2, 3] [0, 4] rfl rfl (by decide) (by decide) hk1 hFc hP1 hD1 rfl
        have hK := (hK.sub (tys' := []) [] rfl).app hK1
        generalize H1 = H at hP hS ⊢
        have hK : va_K (dC, dI) vwCl [(y0, .int), (y1, .int)] s := hK
        exact j28 x6 x7 x8 x9 x10 x11 u37_0 u37_1 u37_2 u37_3 u37_4 u37_5 iu37_3 _ _ hK hP hD hS ls (lv_sub hl [] rfl)
      · skip
        have j38 : iv x0 304 318 := iv_nltR (by decide : iv 318 318 318) j33 c34 (by decide)
        refine lv_aload_n hx hb dX1_writeThing_32 rfl (lv_at hl 0 rfl) ?_
        refine va_get (D := (dC, dI)) (ci := 1) (v := .ref h3) (C := RX1) (T := TX1) (N := 4) hx hb hG inGX1 hown hK hP 0 rfl rfl 2 (by decide) (hG _ wd_116) (fun _ h9 => h9) rfl dX1_writeThing_33 ?_
        refine lv_iload_n hx hb dX1_writeThing_36 rfl (lv_at hl 1 rfl) ?_
        refine lv_iload_n hx hb dX1_writeThing_37 rfl (lv_at hl 2 rfl) ?_
        obtain ⟨hPc, hDc, hFc⟩ := nv_sub3 (wc := [(h3, .inr (5, [.int x6, .int x7, .int x8, .int x9, .int x10, .int x11]))]) hP hD hS hA [4] (by decide) rfl
        have hKc := hK.sub (tys' := []) [] rfl
        refine va_callv (va_runV (As := [.int x0, .int x1]) (rest := []) ⟨hx, hb, hml, hown, hG⟩ (cX5_writeWord_1 l dC dI h3 s.heap.size x0 x1 x6 x7 x8 x9 x10 x11) (cwV 2 hG (gV wd_750 wd_751 wd_752 wd_4 wd_753) rfl rfl rfl (by decide +kernel) ⟨Nat.le_of_ble_eq_true rfl, Nat.le_of_ble_eq_true rfl⟩) ⟨fun a U g mk q => by obtain ⟨q0, q1, qP, qK, qD⟩ := q; exact ⟨q0, q1, qP, va_K.moved (u := U) (U := U.calling g mk a) (Vm.Alike.refl U.vm) qK, qD⟩, va_recv hKc hPc (ci := 5) (q0 := 0) rfl rfl, fun U hU hW => ⟨rfl, by rw [hU], by rw [hU]; exact hPc, va_K.moved hW.alike hKc, hDc.weaken (fun _ _ _ _ => trivial)⟩⟩ rfl rfl hl.1 rfl (lv_room (Nat.le_of_ble_eq_true rfl)) dX1_writeThing_38 ⟨by decide, by decide⟩) hS (fun q _ h => hFc q h) hFc (fun u40 t H1 locs ht hvm hw hB hz1 hk1 hS => ?_)
        obtain ⟨u40_0, u40_1, u40_2, u40_3, u40_4, u40_5⟩ := u40
        obtain ⟨hP1, hK1, hD1⟩ := hB
        rw [ht] at hP1
        have hK1 := va_K.moved hvm.symm hK1
        obtain ⟨hP, hD⟩ := nv_join (wf := [(h0, .inr (1, [.ref h1, .ref h2, .ref h3, .ref h4])), (h4, .inr (9, [.ref h5, .ref h6, .int x2, .int x3, .int x4, .int x5])), (h6, .inl (y0, 3, .inl f0)), (h5, .inl (y1, 3, .inl f1)), (h3, .inr (5, [.int u40_0, .int u40_1, .int u40_2, .int u40_3, .int u40_4, .int u40_5]))]) hP hD [4] [0, 1, 2, 3] rfl rfl (by decide) (by decide) hk1 hFc hP1 hD1 rfl
        have hK := (hK.sub (tys' := [(y0, .int), (y1, .int)]) [0, 1] rfl).app hK1
        generalize H1 = H at hP hS ⊢
        have hK : va_K (dC, dI) vwCl [(y0, .int), (y1, .int)] s := hK
        refine lv_goto (tgt := 53) hx hb dX1_writeThing_41 (by decide) ?_
        exact j28 u40_0 u40_1 u40_2 u40_3 u40_4 u40_5 x2 x3 x4 x5 f0 f1 ix5 _ _ hK (hP.sub (ws' := _) [0, 4, 1, 2, 3] rfl) (hD.sub (ws' := _) [0, 4, 1, 2, 3] (by decide) rfl) hS ls (lv_sub hl [] rfl)
  · skip
    subst c1
    refine lv_aload_n hx hb dX1_writeThing_7 rfl (lv_at hl 0 rfl) ?_
    refine va_get (D := (dC, dI)) (ci := 1) (v := .ref h4) (C := RX1) (T := TX1) (N := 4) hx hb hG inGX1 hown hK hP 0 rfl rfl 3 (by decide) (hG _ wd_117) (fun _ h9 => h9) rfl dX1_writeThing_8 ?_
    obtain ⟨hPc, hDc, hFc⟩ := nv_sub3 (wc := [(h4, .inr (9, [.ref h5, .ref h6, .int x2, .int x3, .int x4, .int x5])), (h5, .inl (y1, 3, .inl f1))]) hP hD hS hA [1, 3] (by decide) rfl
    have hKc := hK.sub (tys' := [(y1, .int)]) [1] rfl
    refine va_calli (va_runV (As := []) (rest := []) ⟨hx, hb, hml, hown, hG⟩ (cX9_takeVector_1 l dC dI h4 h5 h6 y1 s.heap.size x2 x3 x4 x5 f1 ix5) (cwV 0 hG (gV wd_745 wd_746 wd_747 wd_5 wd_748) rfl rfl rfl (by decide +kernel) ⟨Nat.le_of_ble_eq_true rfl, Nat.le_of_ble_eq_true rfl⟩) ⟨fun a U g mk q => by obtain ⟨q0, q1, qP, qK, qD⟩ := q; exact ⟨q0, q1, qP, va_K.moved (u := U) (U := U.calling g mk a) (Vm.Alike.refl U.vm) qK, qD⟩, va_recv hKc hPc (ci := 9) (q0 := 0) rfl rfl, fun U hU hW => ⟨rfl, by rw [hU], by rw [hU]; exact hPc, va_K.moved hW.alike hKc, hDc.weaken (fun _ _ _ _ => trivial)⟩⟩ rfl rfl hl.1 rfl (lv_room (Nat.le_of_ble_eq_true rfl)) dX1_writeThing_11 ⟨by decide, by decide⟩) hS (fun q _ h => hFc q h) hFc (fun r41 u42 t H1 locs ht hvm hw hB hz1 hk1 hS => ?_)
    obtain ⟨u42_0, u42_1⟩ := u42
    have hw : iv r41 0 10 ∧ True := hw
    obtain ⟨ir41, -⟩ := hw
    obtain ⟨hP1, hK1, hD1⟩ := hB
    rw [ht] at hP1
    have hK1 := va_K.moved hvm.symm hK1
    obtain ⟨hP, hD⟩ := nv_join (wf := [(h0, .inr (1, [.ref h1, .ref h2, .ref h3, .ref h4])), (h6, .inl (y0, 3, .inl f0)), (h3, .inr (5, [.int x6, .int x7, .int x8, .int x9, .int x10, .int x11])), (h4, .inr (9, [.ref h5, .ref h6, .int u42_0, .int x3, .int x4, .int x5])), (h5, .inl (y1, 3, .inl u42_1))]) hP hD [1, 3] [0, 2, 4] rfl rfl (by decide) (by decide) hk1 hFc hP1 hD1 rfl
    have hK := (hK.sub (tys' := [(y0, .int)]) [0] rfl).app hK1
    generalize H1 = H at hP hS ⊢
    have hK : va_K (dC, dI) vwCl [(y0, .int), (y1, .int)] s := hK
    refine lv_pop hx hb dX1_writeThing_14 rfl ?_
    refine lv_goto (tgt := 53) hx hb dX1_writeThing_15 (by decide) ?_
    exact j28 x6 x7 x8 x9 x10 x11 u42_0 x3 x4 x5 f0 u42_1 ix5 _ _ hK (hP.sub (ws' := _) [0, 2, 3, 1, 4] rfl) (hD.sub (ws' := _) [0, 2, 3, 1, 4] (by decide) rfl) hS ls (lv_sub hl [] rfl)
set_option maxHeartbeats 100000000 in
set_option maxRecDepth 100000 in
theorem cX7_write_1 (l : Launch) (dC : Nat → ClassId) (dI : Nat → Nat → Nat) (h0 : Nat) (sz : Nat) (x0 x1 x2 x3 x4 x5 x6 : Int32) : Met l yX7_write (Cond.code yX7_write cX7_write 3 none :: lw_G) ({ frames := 0, cells := 0, slots := 0, locals := 0 }) (va_Pc [.ref h0, .int x0, .int x1] (fun U => U.heap.size = sz ∧ va_P (dC, dI) vwCl [(h0, .inr (7, [.int x2, .int x3, .int x4, .int x5, .int x6]))] U.heap ∧ va_K (dC, dI) vwCl [] U ∧ va_D (fun _ => True) [(h0, .inr (7, [.int x2, .int x3, .int x4, .int x5, .int x6]))])) (va_Qv (fun (u : Int32 × Int32 × Int32 × Int32) => True) (fun (u : Int32 × Int32 × Int32 × Int32) (t : State) => va_P (dC, dI) vwCl [(h0, .inr (7, [.int x2, .int u.1, .int u.2.1, .int u.2.2.1, .int u.2.2.2]))] t.heap ∧ va_K (dC, dI) vwCl [] t ∧ va_D (va_A [(h0, .inr (7, [.int x2, .int x3, .int x4, .int x5, .int x6]))] sz) [(h0, .inr (7, [.int x2, .int u.1, .int u.2.1, .int u.2.2.1, .int u.2.2.2]))]) (va_A [(h0, .inr (7, [.int x2, .int x3, .int x4, .int x5, .int x6]))] sz)) 0 0 (va_A [(h0, .inr (7, [.int x2, .int x3, .int x4, .int x5, .int x6]))] sz) := by
  refine Met.ofW (cc := cX7_write) (maxL := 3) (ret := none) (by decide) rfl ?_
  intro p e s m args below meth c s₁ B hml hv
  obtain ⟨rfl, hsz, hP, hK, hD0⟩ := hv
  have hx := B.exec
  have hb := B.bytes
  have hr := B.returns
  have hts0 := atoms_spec (ws := Cond.code yX7_write cX7_write 3 none :: lw_G) B.pre
  have hG : ∀ w ∈ lw_G, w.before _ s = true := fun w h => hts0 w (List.mem_cons_of_mem _ h)
  have hown : s.vm.findClass RX7 = some m.cls := findClass_of_methodNamed B.named
  have hlocks := B.notSynchronized
  subst hsz
  have hD := hD0.self (sz := s.heap.size)
  generalize hAe : va_A [(h0, .inr (7, [.int x2, .int x3, .int x4, .int x5, .int x6]))] s.heap.size = A at hD ⊢
  have hA : ∀ q : Nat, s.heap.size ≤ q → A q := fun q h => by rw [← hAe]; exact Or.inr h
  have hS : va_S A s.heap s.heap [] := va_S.rf
  have hP : va_P (dC, dI) vwCl [(h0, .inr (7, [.int x2, .int x3, .int x4, .int x5, .int x6]))] s.heap := hP
  have hl := lv_entry ([.ref h0, .int x0, .int x1]) (n := 3) (Nat.le_of_ble_eq_true rfl)
  rw [lg_entry_eq]
  generalize (lg_sl ([.ref h0, .int x0, .int x1]) ++ List.replicate (3 - (lg_sl ([.ref h0, .int x0, .int x1])).length) Slot.unset).toArray = ls at hl ⊢
  have hl : lv_has ls 3 [(0, .ref h0), (1, .int x0), (2, .int x1)] := hl
  generalize ([.ref h0, .int x0, .int x1] : List Value).toArray = ar at hG ⊢
  refine wq (fun Q hQ => ?_)
  refine lv_iload_n hx hb dX7_write_0 rfl (lv_at hl 1 rfl) ?_
  refine jcut (a := ∀ (b6 : Int32) (b7 : Int32) (b8 : Int32) (b9 : Int32) (H : Heap) (locs : List Loc) (hK : va_K (dC, dI) vwCl [] s) (hP : va_P (dC, dI) vwCl [(h0, .inr (7, [.int x2, .int b6, .int b7, .int b8, .int b9]))] H) (hD : va_D A [(h0, .inr (7, [.int x2, .int b6, .int b7, .int b8, .int b9]))]) (hS : va_S A s.heap H locs) (ls : Array Slot) (hl : lv_has ls 3 []), W p l e (headSpec (Cond.code yX7_write cX7_write 3 none :: lw_G) ({ frames := 0, cells := 0, slots := 0, locals := 0 })).room s m ar below meth c H locs 0 0 Q (F0 m 84 ls [])) ?_ (fun j10 => ?_)
  · skip
    intro b6 b7 b8 b9 H locs hK hP hD hS ls hl
    rw [hQ]
    obtain ⟨hP9, hD9⟩ := nv_sub2 (wc := [(h0, .inr (7, [.int x2, .int b6, .int b7, .int b8, .int b9]))]) hP hD [0] (by decide) rfl
    have hK9 := hK.sub (tys' := []) [] rfl
    exact W.vret hx hb hr (fun t ht hW => ⟨⟨(b6, b7, b8, b9), rfl, trivial, by rw [ht]; exact hP9, va_K.moved hW.alike hK9, hD9⟩, hS.F ht⟩) hS.2.2 dX7_write_84
  have s1x : (x0.toInt < 33 ∨ 37 < x0.toInt) ∨ x0 = 33 ∨ x0 = 34 ∨ x0 = 35 ∨ x0 = 36 ∨ x0 = 37 := by
    have h1 := (iv_any x0)
    have : (x0.toInt < 33 ∨ 37 < x0.toInt) ∨ x0.toInt = 33 ∨ x0.toInt = 34 ∨ x0.toInt = 35 ∨ x0.toInt = 36 ∨ x0.toInt = 37 := by omega
    rcases this with q | q | q | q | q | q
    · exact Or.inl q
    · exact Or.inr (Or.inl (Int32.toInt_inj.mp q))
    · exact Or.inr (Or.inr (Or.inl (Int32.toInt_inj.mp q)))
    · exact Or.inr (Or.inr (Or.inr (Or.inl (Int32.toInt_inj.mp q))))
    · exact Or.inr (Or.inr (Or.inr (Or.inr (Or.inl (Int32.toInt_inj.mp q)))))
    · exact Or.inr (Or.inr (Or.inr (Or.inr (Or.inr ((Int32.toInt_inj.mp q))))))
  rcases s1x with s1 | rfl | rfl | rfl | rfl | rfl
  · skip
    refine lv_tableOut (tgt := 84) hx hb dX7_write_1 s1 (by decide) ?_
    exact j10 x3 x4 x5 x6 _ _ hK hP hD hS ls (lv_sub hl [] rfl)
  · skip
    refine lv_tableIn (off := 35) (tgt := 36) hx hb dX7_write_1 (by decide) (by decide) (by decide) (by decide) ?_
    refine lv_aload_n hx hb dX7_write_36 rfl (lv_at hl 0 rfl) ?_
    refine lv_iload_n hx hb dX7_write_37 rfl (lv_at hl 2 rfl) ?_
    refine lv_sipush (v := 255) hx hb dX7_write_38 (by decide) ?_
    refine lv_iand hx hb dX7_write_41 ?_
    refine lv_topi (fun v11 ev11 => ?_)
    have iv11 : iv v11 0 255 := iv_eq ev11 (iv_and (x := x1) (iv_w (by decide : iv 255 255 255) (by decide) (by decide) : iv 255 0 255))
    refine va_put (D := (dC, dI)) (ci := 7) (v := .int v11) (ty := .int) (C := RX7) (T := TX7) (N := 5) hx hb hG inGX7 tyX7 tyX7_ok nmX7 hown hK hP hD hS 0 rfl rfl 1 (by decide) (hG _ wd_48) (fun _ h9 => h9) rfl (by decide +kernel) rfl rfl (Nat.le_of_ble_eq_true rfl) dX7_write_42 (fun H locs hP hD hS => ?_)
    obtain ⟨hP, hD⟩ := nv_eq (ws' := [(h0, .inr (7, [.int x2, .int v11, .int x4, .int x5, .int x6]))]) hP hD rfl
    refine lv_goto (tgt := 84) hx hb dX7_write_45 (by decide) ?_
    exact j10 v11 x4 x5 x6 _ _ hK hP hD hS ls (lv_sub hl [] rfl)
  · skip
    refine lv_tableIn (off := 83) (tgt := 84) hx hb dX7_write_1 (by decide) (by decide) (by decide) (by decide) ?_
    exact j10 x3 x4 x5 x6 _ _ hK hP hD hS ls (lv_sub hl [] rfl)
  · skip
    refine lv_tableIn (off := 47) (tgt := 48) hx hb dX7_write_1 (by decide) (by decide) (by decide) (by decide) ?_
    refine lv_aload_n hx hb dX7_write_48 rfl (lv_at hl 0 rfl) ?_
    refine lv_iload_n hx hb dX7_write_49 rfl (lv_at hl 2 rfl) ?_
    refine lv_sipush (v := 255) hx hb dX7_write_50 (by decide) ?_
    refine lv_iand hx hb dX7_write_53 ?_
    refine lv_topi (fun v12 ev12 => ?_)
    have iv12 : iv v12 0 255 := iv_eq ev12 (iv_and (x := x1) (iv_w (by decide : iv 255 255 255) (by decide) (by decide) : iv 255 0 255))
    refine va_put (D := (dC, dI)) (ci := 7) (v := .int v12) (ty := .int) (C := RX7) (T := TX7) (N := 5) hx hb hG inGX7 tyX7 tyX7_ok nmX7 hown hK hP hD hS 0 rfl rfl 2 (by decide) (hG _ wd_49) (fun _ h9 => h9) rfl (by decide +kernel) rfl rfl (Nat.le_of_ble_eq_true rfl) dX7_write_54 (fun H locs hP hD hS => ?_)
    obtain ⟨hP, hD⟩ := nv_eq (ws' := [(h0, .inr (7, [.int x2, .int x3, .int v12, .int x5, .int x6]))]) hP hD rfl
    refine lv_goto (tgt := 84) hx hb dX7_write_57 (by decide) ?_
    exact j10 x3 v12 x5 x6 _ _ hK hP hD hS ls (lv_sub hl [] rfl)
  · skip
    refine lv_tableIn (off := 59) (tgt := 60) hx hb dX7_write_1 (by decide) (by decide) (by decide) (by decide) ?_
    refine lv_aload_n hx hb dX7_write_60 rfl (lv_at hl 0 rfl) ?_
    refine lv_iload_n hx hb dX7_write_61 rfl (lv_at hl 2 rfl) ?_
    refine lv_sipush (v := 255) hx hb dX7_write_62 (by decide) ?_
    refine lv_iand hx hb dX7_write_65 ?_
    refine lv_topi (fun v13 ev13 => ?_)
    have iv13 : iv v13 0 255 := iv_eq ev13 (iv_and (x := x1) (iv_w (by decide : iv 255 255 255) (by decide) (by decide) : iv 255 0 255))
    refine va_put (D := (dC, dI)) (ci := 7) (v := .int v13) (ty := .int) (C := RX7) (T := TX7) (N := 5) hx hb hG inGX7 tyX7 tyX7_ok nmX7 hown hK hP hD hS 0 rfl rfl 3 (by decide) (hG _ wd_50) (fun _ h9 => h9) rfl (by decide +kernel) rfl rfl (Nat.le_of_ble_eq_true rfl) dX7_write_66 (fun H locs hP hD hS => ?_)
    obtain ⟨hP, hD⟩ := nv_eq (ws' := [(h0, .inr (7, [.int x2, .int x3, .int x4, .int v13, .int x6]))]) hP hD rfl
    refine lv_goto (tgt := 84) hx hb dX7_write_69 (by decide) ?_
    exact j10 x3 x4 v13 x6 _ _ hK hP hD hS ls (lv_sub hl [] rfl)
  · skip
    refine lv_tableIn (off := 71) (tgt := 72) hx hb dX7_write_1 (by decide) (by decide) (by decide) (by decide) ?_
    refine lv_aload_n hx hb dX7_write_72 rfl (lv_at hl 0 rfl) ?_
    refine lv_iload_n hx hb dX7_write_73 rfl (lv_at hl 2 rfl) ?_
    refine lv_sipush (v := 255) hx hb dX7_write_74 (by decide) ?_
    refine lv_iand hx hb dX7_write_77 ?_
    refine lv_topi (fun v14 ev14 => ?_)
    have iv14 : iv v14 0 255 := iv_eq ev14 (iv_and (x := x1) (iv_w (by decide : iv 255 255 255) (by decide) (by decide) : iv 255 0 255))
    refine va_put (D := (dC, dI)) (ci := 7) (v := .int v14) (ty := .int) (C := RX7) (T := TX7) (N := 5) hx hb hG inGX7 tyX7 tyX7_ok nmX7 hown hK hP hD hS 0 rfl rfl 4 (by decide) (hG _ wd_51) (fun _ h9 => h9) rfl (by decide +kernel) rfl rfl (Nat.le_of_ble_eq_true rfl) dX7_write_78 (fun H locs hP hD hS => ?_)
    obtain ⟨hP, hD⟩ := nv_eq (ws' := [(h0, .inr (7, [.int x2, .int x3, .int x4, .int x5, .int v14]))]) hP hD rfl
    refine lv_goto (tgt := 84) hx hb dX7_write_81 (by decide) ?_
    exact j10 x3 x4 x5 v14 _ _ hK hP hD hS ls (lv_sub hl [] rfl)
set_option maxHeartbeats 100000000 in
set_option maxRecDepth 100000 in
theorem cX1_writeByte_1 (l : Launch) (dC : Nat → ClassId) (dI : Nat → Nat → Nat) (h0 h1 h2 h3 h4 h5 h6 : Nat) (y0 y1 y2 : ClassId) (sz : Nat) (x0 x1 x2 x3 x4 x5 x6 x7 x8 x9 x10 x11 x12 x13 x14 x15 x16 : Int32) (f0 f1 f2 : Nat → Int32) (ix5 : iv x5 0 1) : Met l yX1_writeByte (Cond.code yX1_writeByte cX1_writeByte 7 none :: lw_G) ({ frames := 3, cells := 0, slots := 0, locals := 66 }) (va_Pc [.ref h0, .int x0, .int x1] (fun U => U.heap.size = sz ∧ va_P (dC, dI) vwCl [(h0, .inr (1, [.ref h1, .ref h2, .ref h3, .ref h4])), (h1, .inl (y0, 32768, .inl f0)), (h4, .inr (9, [.ref h5, .ref h6, .int x2, .int x3, .int x4, .int x5])), (h6, .inl (y1, 3, .inl f1)), (h5, .inl (y2, 3, .inl f2)), (h3, .inr (5, [.int x6, .int x7, .int x8, .int x9, .int x10, .int x11])), (h2, .inr (7, [.int x12, .int x13, .int x14, .int x15, .int x16]))] U.heap ∧ va_K (dC, dI) vwCl [(y0, .int), (y1, .int), (y2, .int)] U ∧ va_D (fun _ => True) [(h0, .inr (1, [.ref h1, .ref h2, .ref h3, .ref h4])), (h1, .inl (y0, 32768, .inl f0)), (h4, .inr (9, [.ref h5, .ref h6, .int x2, .int x3, .int x4, .int x5])), (h6, .inl (y1, 3, .inl f1)), (h5, .inl (y2, 3, .inl f2)), (h3, .inr (5, [.int x6, .int x7, .int x8, .int x9, .int x10, .int x11])), (h2, .inr (7, [.int x12, .int x13, .int x14, .int x15, .int x16]))])) (va_Qv (fun (u : (Nat → Int32) × Int32 × Int32 × Int32 × Int32 × (Nat → Int32) × (Nat → Int32) × Int32 × Int32 × Int32 × Int32 × Int32 × Int32 × Int32 × Int32 × Int32 × Int32) => iv u.2.2.2.2.1 0 1 ∧ True) (fun (u : (Nat → Int32) × Int32 × Int32 × Int32 × Int32 × (Nat → Int32) × (Nat → Int32) × Int32 × Int32 × Int32 × Int32 × Int32 × Int32 × Int32 × Int32 × Int32 × Int32) (t : State) => va_P (dC, dI) vwCl [(h0, .inr (1, [.ref h1, .ref h2, .ref h3, .ref h4])), (h1, .inl (y0, 32768, .inl u.1)), (h4, .inr (9, [.ref h5, .ref h6, .int u.2.1, .int u.2.2.1, .int u.2.2.2.1, .int u.2.2.2.2.1])), (h6, .inl (y1, 3, .inl u.2.2.2.2.2.1)), (h5, .inl (y2, 3, .inl u.2.2.2.2.2.2.1)), (h3, .inr (5, [.int u.2.2.2.2.2.2.2.1, .int u.2.2.2.2.2.2.2.2.1, .int u.2.2.2.2.2.2.2.2.2.1, .int u.2.2.2.2.2.2.2.2.2.2.1, .int u.2.2.2.2.2.2.2.2.2.2.2.1, .int u.2.2.2.2.2.2.2.2.2.2.2.2.1])), (h2, .inr (7, [.int x12, .int u.2.2.2.2.2.2.2.2.2.2.2.2.2.1, .int u.2.2.2.2.2.2.2.2.2.2.2.2.2.2.1, .int u.2.2.2.2.2.2.2.2.2.2.2.2.2.2.2.1, .int u.2.2.2.2.2.2.2.2.2.2.2.2.2.2.2.2]))] t.heap ∧ va_K (dC, dI) vwCl [(y0, .int), (y1, .int), (y2, .int)] t ∧ va_D (va_A [(h0, .inr (1, [.ref h1, .ref h2, .ref h3, .ref h4])), (h1, .inl (y0, 32768, .inl f0)), (h4, .inr (9, [.ref h5, .ref h6, .int x2, .int x3, .int x4, .int x5])), (h6, .inl (y1, 3, .inl f1)), (h5, .inl (y2, 3, .inl f2)), (h3, .inr (5, [.int x6, .int x7, .int x8, .int x9, .int x10, .int x11])), (h2, .inr (7, [.int x12, .int x13, .int x14, .int x15, .int x16]))] sz) [(h0, .inr (1, [.ref h1, .ref h2, .ref h3, .ref h4])), (h1, .inl (y0, 32768, .inl u.1)), (h4, .inr (9, [.ref h5, .ref h6, .int u.2.1, .int u.2.2.1, .int u.2.2.2.1, .int u.2.2.2.2.1])), (h6, .inl (y1, 3, .inl u.2.2.2.2.2.1)), (h5, .inl (y2, 3, .inl u.2.2.2.2.2.2.1)), (h3, .inr (5, [.int u.2.2.2.2.2.2.2.1, .int u.2.2.2.2.2.2.2.2.1, .int u.2.2.2.2.2.2.2.2.2.1, .int u.2.2.2.2.2.2.2.2.2.2.1, .int u.2.2.2.2.2.2.2.2.2.2.2.1, .int u.2.2.2.2.2.2.2.2.2.2.2.2.1])), (h2, .inr (7, [.int x12, .int u.2.2.2.2.2.2.2.2.2.2.2.2.2.1, .int u.2.2.2.2.2.2.2.2.2.2.2.2.2.2.1, .int u.2.2.2.2.2.2.2.2.2.2.2.2.2.2.2.1, .int u.2.2.2.2.2.2.2.2.2.2.2.2.2.2.2.2]))]) (va_A [(h0, .inr (1, [.ref h1, .ref h2, .ref h3, .ref h4])), (h1, .inl (y0, 32768, .inl f0)), (h4, .inr (9, [.ref h5, .ref h6, .int x2, .int x3, .int x4, .int x5])), (h6, .inl (y1, 3, .inl f1)), (h5, .inl (y2, 3, .inl f2)), (h3, .inr (5, [.int x6, .int x7, .int x8, .int x9, .int x10, .int x11])), (h2, .inr (7, [.int x12, .int x13, .int x14, .int x15, .int x16]))] sz)) 0 0 (va_A [(h0, .inr (1, [.ref h1, .ref h2, .ref h3, .ref h4])), (h1, .inl (y0, 32768, .inl f0)), (h4, .inr (9, [.ref h5, .ref h6, .int x2, .int x3, .int x4, .int x5])), (h6, .inl (y1, 3, .inl f1)), (h5, .inl (y2, 3, .inl f2)), (h3, .inr (5, [.int x6, .int x7, .int x8, .int x9, .int x10, .int x11])), (h2, .inr (7, [.int x12, .int x13, .int x14, .int x15, .int x16]))] sz) := by
  refine Met.ofW (cc := cX1_writeByte) (maxL := 7) (ret := none) (by decide) rfl ?_
  intro p e s m args below meth c s₁ B hml hv
  obtain ⟨rfl, hsz, hP, hK, hD0⟩ := hv
  have hx := B.exec
  have hb := B.bytes
  have hr := B.returns
  have hts0 := atoms_spec (ws := Cond.code yX1_writeByte cX1_writeByte 7 none :: lw_G) B.pre
  have hG : ∀ w ∈ lw_G, w.before _ s = true := fun w h => hts0 w (List.mem_cons_of_mem _ h)
  have hown : s.vm.findClass RX1 = some m.cls := findClass_of_methodNamed B.named
  have hlocks := B.notSynchronized
  subst hsz
  have hD := hD0.self (sz := s.heap.size)
  generalize hAe : va_A [(h0, .inr (1, [.ref h1, .ref h2, .ref h3, .ref h4])), (h1, .inl (y0, 32768, .inl f0)), (h4, .inr (9, [.ref h5, .ref h6, .int x2, .int x3, .int x4, .int x5])), (h6, .inl (y1, 3, .inl f1)), (h5, .inl (y2, 3, .inl f2)), (h3, .inr (5, [.int x6, .int x7, .int x8, .int x9, .int x10, .int x11])), (h2, .inr (7, [.int x12, .int x13, .int x14, .int x15, .int x16]))] s.heap.size = A at hD ⊢
  have hA : ∀ q : Nat, s.heap.size ≤ q → A q := fun q h => by rw [← hAe]; exact Or.inr h
  have hS : va_S A s.heap s.heap [] := va_S.rf
  have hP : va_P (dC, dI) vwCl [(h0, .inr (1, [.ref h1, .ref h2, .ref h3, .ref h4])), (h1, .inl (y0, 32768, .inl f0)), (h4, .inr (9, [.ref h5, .ref h6, .int x2, .int x3, .int x4, .int x5])), (h6, .inl (y1, 3, .inl f1)), (h5, .inl (y2, 3, .inl f2)), (h3, .inr (5, [.int x6, .int x7, .int x8, .int x9, .int x10, .int x11])), (h2, .inr (7, [.int x12, .int x13, .int x14, .int x15, .int x16]))] s.heap := hP
  have hl := lv_entry ([.ref h0, .int x0, .int x1]) (n := 7) (Nat.le_of_ble_eq_true rfl)
  rw [lg_entry_eq]
  generalize (lg_sl ([.ref h0, .int x0, .int x1]) ++ List.replicate (7 - (lg_sl ([.ref h0, .int x0, .int x1])).length) Slot.unset).toArray = ls at hl ⊢
  have hl : lv_has ls 7 [(0, .ref h0), (1, .int x0), (2, .int x1)] := hl
  generalize ([.ref h0, .int x0, .int x1] : List Value).toArray = ar at hG ⊢
  refine wq (fun Q hQ => ?_)
  refine lv_iload_n hx hb dX1_writeByte_0 rfl (lv_at hl 1 rfl) ?_
  refine lv_ldc hx hb hown (hG _ wd_714) dX1_writeByte_1 ?_
  refine lv_iand hx hb dX1_writeByte_3 ?_
  refine lv_topi (fun v1 ev1 => ?_)
  have iv1 : iv v1 0 65535 := iv_eq ev1 (iv_and (x := x0) (iv_w (by decide : iv 65535 65535 65535) (by decide) (by decide) : iv 65535 0 65535))
  refine lv_istore_n (lv' := [(3, .int v1), (0, .ref h0), (1, .int x0), (2, .int x1)]) hx hb dX1_writeByte_4 rfl hl (by decide) rfl (fun ls hl => ?_)
  refine lv_iload_n hx hb dX1_writeByte_5 rfl (lv_at hl 0 rfl) ?_
  refine lv_sipush (v := 288) hx hb dX1_writeByte_6 (by decide) ?_
  refine lv_icmp_ge (tgt := 26) hx hb dX1_writeByte_9 (by decide) (fun c2 => ?_) (fun c2 => ?_)
  · skip
    have j3 : iv v1 288 65535 := iv_leR (by decide : iv 288 288 288) iv1 c2 (by decide)
    refine lv_iload_n hx hb dX1_writeByte_26 rfl (lv_at hl 0 rfl) ?_
    refine lv_ldc hx hb hown (hG _ wd_719) dX1_writeByte_27 ?_
    refine lv_iand hx hb dX1_writeByte_29 ?_
    refine lv_topi (fun v4 ev4 => ?_)
    have iv4 : iv v4 0 65534 := iv_eq ev4 (iv_and (x := v1) (iv_w (by decide : iv 65534 65534 65534) (by decide) (by decide) : iv 65534 0 65534))
    refine lv_istore (lv' := [(4, .int v4), (3, .int v1), (0, .ref h0), (1, .int x0), (2, .int x1)]) hx hb dX1_writeByte_30 hl (by decide) rfl (fun ls hl => ?_)
    refine lv_iload hx hb dX1_writeByte_32 (lv_at hl 0 rfl) ?_
    refine lv_sipush (v := 512) hx hb dX1_writeByte_34 (by decide) ?_
    refine jcut (a := ∀ (b12 : Int32) (H : Heap) (locs : List Loc) (hK : va_K (dC, dI) vwCl [(y0, .int), (y1, .int), (y2, .int)] s) (hP : va_P (dC, dI) vwCl [(h0, .inr (1, [.ref h1, .ref h2, .ref h3, .ref h4])), (h1, .inl (y0, 32768, .inl f0)), (h4, .inr (9, [.ref h5, .ref h6, .int x2, .int x3, .int x4, .int x5])), (h6, .inl (y1, 3, .inl f1)), (h5, .inl (y2, 3, .inl f2)), (h3, .inr (5, [.int x6, .int x7, .int x8, .int x9, .int x10, .int x11])), (h2, .inr (7, [.int x12, .int x13, .int x14, .int x15, .int x16]))] H) (hD : va_D A [(h0, .inr (1, [.ref h1, .ref h2, .ref h3, .ref h4])), (h1, .inl (y0, 32768, .inl f0)), (h4, .inr (9, [.ref h5, .ref h6, .int x2, .int x3, .int x4, .int x5])), (h6, .inl (y1, 3, .inl f1)), (h5, .inl (y2, 3, .inl f2)), (h3, .inr (5, [.int x6, .int x7, .int x8, .int x9, .int x10, .int x11])), (h2, .inr (7, [.int x12, .int x13, .int x14, .int x15, .int x16]))]) (hS : va_S A s.heap H locs) (ls : Array Slot) (hl : lv_has ls 7 [(4, .int v4), (3, .int v1), (0, .ref h0), (2, .int x1)]), W p l e (headSpec (Cond.code yX1_writeByte cX1_writeByte 7 none :: lw_G) ({ frames := 3, cells := 0, slots := 0, locals := 66 })).room s m ar below meth c H locs 0 0 Q (F0 m 58 ls [.int b12])) ?_ (fun j13 => ?_)
    · skip
      intro b12 H locs hK hP hD hS ls hl
      refine lv_istore (lv' := [(5, .int b12), (4, .int v4), (3, .int v1), (0, .ref h0), (2, .int x1)]) hx hb dX1_writeByte_58 hl (by decide) rfl (fun ls hl => ?_)
      refine lv_iload_n hx hb dX1_writeByte_60 rfl (lv_at hl 2 rfl) ?_
      refine lv_iconst (v := 1) hx hb dX1_writeByte_61 (by decide) ?_
      refine lv_iand hx hb dX1_writeByte_62 ?_
      refine lv_topi (fun v14 ev14 => ?_)
      have iv14 : iv v14 0 1 := iv_eq ev14 (iv_and (x := v1) (iv_w (by decide : iv 1 1 1) (by decide) (by decide) : iv 1 0 1))
      refine jcut (a := ∀ (b24 : Int32) (ib24 : iv b24 0 65535) (H : Heap) (locs : List Loc) (hK : va_K (dC, dI) vwCl [(y0, .int), (y1, .int), (y2, .int)] s) (hP : va_P (dC, dI) vwCl [(h0, .inr (1, [.ref h1, .ref h2, .ref h3, .ref h4])), (h1, .inl (y0, 32768, .inl f0)), (h4, .inr (9, [.ref h5, .ref h6, .int x2, .int x3, .int x4, .int x5])), (h6, .inl (y1, 3, .inl f1)), (h5, .inl (y2, 3, .inl f2)), (h3, .inr (5, [.int x6, .int x7, .int x8, .int x9, .int x10, .int x11])), (h2, .inr (7, [.int x12, .int x13, .int x14, .int x15, .int x16]))] H) (hD : va_D A [(h0, .inr (1, [.ref h1, .ref h2, .ref h3, .ref h4])), (h1, .inl (y0, 32768, .inl f0)), (h4, .inr (9, [.ref h5, .ref h6, .int x2, .int x3, .int x4, .int x5])), (h6, .inl (y1, 3, .inl f1)), (h5, .inl (y2, 3, .inl f2)), (h3, .inr (5, [.int x6, .int x7, .int x8, .int x9, .int x10, .int x11])), (h2, .inr (7, [.int x12, .int x13, .int x14, .int x15, .int x16]))]) (hS : va_S A s.heap H locs) (ls : Array Slot) (hl : lv_has ls 7 [(4, .int v4), (0, .ref h0)]), W p l e (headSpec (Cond.code yX1_writeByte cX1_writeByte 7 none :: lw_G) ({ frames := 3, cells := 0, slots := 0, locals := 66 })).room s m ar below meth c H locs 0 0 Q (F0 m 95 ls [.int b24])) ?_ (fun j25 => ?_)
      · skip
        intro b24 ib24 H locs hK hP hD hS ls hl
        refine lv_istore (lv' := [(6, .int b24), (4, .int v4), (0, .ref h0)]) hx hb dX1_writeByte_95 hl (by decide) rfl (fun ls hl => ?_)
        refine lv_iload hx hb dX1_writeByte_97 (lv_at hl 1 rfl) ?_
        refine lv_sipush (v := 512) hx hb dX1_writeByte_99 (by decide) ?_
        refine jcut (a := ∀ (b33 : Nat → Int32) (b34 : Int32) (b35 : Int32) (b36 : Int32) (b37 : Int32) (b38 : Nat → Int32) (b39 : Nat → Int32) (b40 : Int32) (b41 : Int32) (b42 : Int32) (b43 : Int32) (b44 : Int32) (b45 : Int32) (ib37 : iv b37 0 1) (H : Heap) (locs : List Loc) (hK : va_K (dC, dI) vwCl [(y0, .int), (y1, .int), (y2, .int)] s) (hP : va_P (dC, dI) vwCl [(h1, .inl (y0, 32768, .inl b33)), (h2, .inr (7, [.int x12, .int x13, .int x14, .int x15, .int x16])), (h0, .inr (1, [.ref h1, .ref h2, .ref h3, .ref h4])), (h4, .inr (9, [.ref h5, .ref h6, .int b34, .int b35, .int b36, .int b37])), (h6, .inl (y1, 3, .inl b38)), (h5, .inl (y2, 3, .inl b39)), (h3, .inr (5, [.int b40, .int b41, .int b42, .int b43, .int b44, .int b45]))] H) (hD : va_D A [(h1, .inl (y0, 32768, .inl b33)), (h2, .inr (7, [.int x12, .int x13, .int x14, .int x15, .int x16])), (h0, .inr (1, [.ref h1, .ref h2, .ref h3, .ref h4])), (h4, .inr (9, [.ref h5, .ref h6, .int b34, .int b35, .int b36, .int b37])), (h6, .inl (y1, 3, .inl b38)), (h5, .inl (y2, 3, .inl b39)), (h3, .inr (5, [.int b40, .int b41, .int b42, .int b43, .int b44, .int b45]))]) (hS : va_S A s.heap H locs) (ls : Array Slot) (hl : lv_has ls 7 []), W p l e (headSpec (Cond.code yX1_writeByte cX1_writeByte 7 none :: lw_G) ({ frames := 3, cells := 0, slots := 0, locals := 66 })).room s m ar below meth c H locs 0 0 Q (F0 m 127 ls [])) ?_ (fun j46 => ?_)
        · skip
          intro b33 b34 b35 b36 b37 b38 b39 b40 b41 b42 b43 b44 b45 ib37 H locs hK hP hD hS ls hl
          rw [hQ]
          obtain ⟨hP9, hD9⟩ := nv_sub2 (wc := [(h0, .inr (1, [.ref h1, .ref h2, .ref h3, .ref h4])), (h1, .inl (y0, 32768, .inl b33)), (h4, .inr (9, [.ref h5, .ref h6, .int b34, .int b35, .int b36, .int b37])), (h6, .inl (y1, 3, .inl b38)), (h5, .inl (y2, 3, .inl b39)), (h3, .inr (5, [.int b40, .int b41, .int b42, .int b43, .int b44, .int b45])), (h2, .inr (7, [.int x12, .int x13, .int x14, .int x15, .int x16]))]) hP hD [2, 0, 3, 4, 5, 6, 1] (by decide) rfl
          have hK9 := hK.sub (tys' := [(y0, .int), (y1, .int), (y2, .int)]) [0, 1, 2] rfl
          exact W.vret hx hb hr (fun t ht hW => ⟨⟨(b33, b34, b35, b36, b37, b38, b39, b40, b41, b42, b43, b44, b45, x13, x14, x15, x16), rfl, ⟨iv_w ib37 (by decide) (by decide), trivial⟩, by rw [ht]; exact hP9, va_K.moved hW.alike hK9, hD9⟩, hS.F ht⟩) hS.2.2 dX1_writeByte_127
        refine lv_icmp_lt (tgt := 119) hx hb dX1_writeByte_102 (by decide) (fun c26 => ?_) (fun c26 => ?_)
        · skip
          have j47 : iv v4 0 511 := iv_ltL iv4 (by decide : iv 512 512 512) c26 (by decide)
          refine lv_aload_n hx hb dX1_writeByte_119 rfl (lv_at hl 2 rfl) ?_
          refine lv_iload hx hb dX1_writeByte_120 (lv_at hl 1 rfl) ?_
          refine lv_iload hx hb dX1_writeByte_122 (lv_at hl 0 rfl) ?_
          obtain ⟨hPc, hDc, hFc⟩ := nv_sub3 (wc := [(h0, .inr (1, [.ref h1, .ref h2, .ref h3, .ref h4])), (h4, .inr (9, [.ref h5, .ref h6, .int x2, .int x3, .int x4, .int x5])), (h6, .inl (y1, 3, .inl f1)), (h5, .inl (y2, 3, .inl f2)), (h3, .inr (5, [.int x6, .int x7, .int x8, .int x9, .int x10, .int x11]))]) hP hD hS hA [0, 2, 3, 4, 5] (by decide) rfl
          have hKc := hK.sub (tys' := [(y1, .int), (y2, .int)]) [1, 2] rfl
          refine va_callv (va_runV (As := [.int v4, .int b24]) (rest := []) ⟨hx, hb, hml, hown, hG⟩ (cX1_writeThing_1 l dC dI h0 h1 h2 h3 h4 h5 h6 y1 y2 H.size v4 b24 x2 x3 x4 x5 x6 x7 x8 x9 x10 x11 f1 f2 ix5) (cwV 2 hG (gV wd_741 wd_743 wp_28 wd_2 wd_744) rfl rfl rfl (by decide +kernel) ⟨Nat.le_of_ble_eq_true rfl, Nat.le_of_ble_eq_true rfl⟩) ⟨fun a U g mk q => by obtain ⟨q0, q1, qP, qK, qD⟩ := q; exact ⟨q0, q1, qP, va_K.moved (u := U) (U := U.calling g mk a) (Vm.Alike.refl U.vm) qK, qD⟩, va_recv hKc hPc (ci := 1) (q0 := 0) rfl rfl, fun U hU hW => ⟨rfl, by rw [hU], by rw [hU]; exact hPc, va_K.moved hW.alike hKc, hDc.weaken (fun _ _ _ _ => trivial)⟩⟩ rfl rfl hl.1 rfl (lv_room (Nat.le_of_ble_eq_true rfl)) dX1_writeByte_124 ⟨by decide, by decide⟩) hS (fun q _ h => hFc q h) hFc (fun u49 t H1 locs ht hvm hw hB hz1 hk1 hS => ?_)
          obtain ⟨u49_0, u49_1, u49_2, u49_3, u49_4, u49_5, u49_6, u49_7, u49_8, u49_9, u49_10, u49_11⟩ := u49
          have hw : iv u49_3 0 1 ∧ True := hw
          obtain ⟨iu49_3, -⟩ := hw
          obtain ⟨hP1, hK1, hD1⟩ := hB
          rw [ht] at hP1
          have hK1 := va_K.moved hvm.symm hK1
          obtain ⟨hP, hD⟩ := nv_join (wf := [(h1, .inl (y0, 32768, .inl f0)), (h2, .inr (7, [.int x12, .int x13, .int x14, .int x15, .int x16])), (h0, .inr (1, [.ref h1, .ref h2, .ref h3, .ref h4])), (h4, .inr (9, [.ref h5, .ref h6, .int u49_0, .int u49_1, .int u49_2, .int u49_3])), (h6, .inl (y1, 3, .inl u49_4)), (h5, .inl (y2, 3, .inl u49_5)), (h3, .inr (5, [.int u49_6, .int u49_7, .int u49_8, .int u49_9, .int u49_10, .int u49_11]))]) hP hD [0, 2, 3, 4, 5] [1, 6] rfl rfl (by decide) (by decide) hk1 hFc hP1 hD1 rfl
          have hK := (hK.sub (tys' := [(y0, .int)]) [0] rfl).app hK1
          generalize H1 = H at hP hS ⊢
          have hK : va_K (dC, dI) vwCl [(y0, .int), (y1, .int), (y2, .int)] s := hK
          exact j46 f0 u49_0 u49_1 u49_2 u49_3 u49_4 u49_5 u49_6 u49_7 u49_8 u49_9 u49_10 u49_11 iu49_3 _ _ hK hP hD hS ls (lv_sub hl [] rfl)
        · skip
          have j50 : iv v4 512 65534 := iv_nltL iv4 (by decide : iv 512 512 512) c26 (by decide)
          refine lv_aload_n hx hb dX1_writeByte_105 rfl (lv_at hl 2 rfl) ?_
          refine va_get (D := (dC, dI)) (ci := 1) (v := .ref h1) (C := RX1) (T := TX1) (N := 4) hx hb hG inGX1 hown hK hP 0 rfl rfl 0 (by decide) (hG _ wd_114) (fun _ h9 => h9) rfl dX1_writeByte_106 ?_
          refine lv_iload hx hb dX1_writeByte_109 (lv_at hl 1 rfl) ?_
          refine lv_iconst (v := 1) hx hb dX1_writeByte_111 (by decide) ?_
          refine lv_ishr hx hb dX1_writeByte_112 ?_
          refine lv_topi (fun v51 ev51 => ?_)
          have iv51 : iv v51 256 32767 := iv_eq ev51 (iv_shr 1 (by decide) j50 (by decide) (by decide))
          refine lv_iload hx hb dX1_writeByte_113 (lv_at hl 0 rfl) ?_
          refine va_iast hx hb hK hP hD hS 1 0 rfl rfl (iv_in iv51 (by decide) (by decide) : vp_in v51 32768) dX1_writeByte_115 (fun H locs hP hD hS => ?_)
          obtain ⟨nf52, enf52⟩ : ∃ z, z = upd f0 v51.toNatClampNeg b24 := ⟨_, rfl⟩
          obtain ⟨hP, hD⟩ := nv_eq (ws' := [(h0, .inr (1, [.ref h1, .ref h2, .ref h3, .ref h4])), (h1, .inl (y0, 32768, .inl nf52)), (h4, .inr (9, [.ref h5, .ref h6, .int x2, .int x3, .int x4, .int x5])), (h6, .inl (y1, 3, .inl f1)), (h5, .inl (y2, 3, .inl f2)), (h3, .inr (5, [.int x6, .int x7, .int x8, .int x9, .int x10, .int x11])), (h2, .inr (7, [.int x12, .int x13, .int x14, .int x15, .int x16]))]) hP hD (by subst enf52; rfl)
          refine lv_goto (tgt := 127) hx hb dX1_writeByte_116 (by decide) ?_
          exact j46 nf52 x2 x3 x4 x5 f1 f2 x6 x7 x8 x9 x10 x11 ix5 _ _ hK (hP.sub (ws' := _) [1, 6, 0, 2, 3, 4, 5] rfl) (hD.sub (ws' := _) [1, 6, 0, 2, 3, 4, 5] (by decide) rfl) hS ls (lv_sub hl [] rfl)
      refine lv_if_ne (tgt := 80) hx hb dX1_writeByte_63 (by decide) (fun c15 => ?_) (fun c15 => ?_)
      · skip
        have j53 : iv v14 1 1 := iv_neLo iv14 (by decide : iv 0 0 0) c15 (by decide)
        refine lv_iload hx hb dX1_writeByte_80 (lv_at hl 0 rfl) ?_
        refine lv_sipush (v := 255) hx hb dX1_writeByte_82 (by decide) ?_
        refine lv_iand hx hb dX1_writeByte_85 ?_
        refine lv_topi (fun v54 ev54 => ?_)
        have iv54 : iv v54 0 255 := iv_eq ev54 (iv_and (x := b12) (iv_w (by decide : iv 255 255 255) (by decide) (by decide) : iv 255 0 255))
        refine lv_iload_n hx hb dX1_writeByte_86 rfl (lv_at hl 4 rfl) ?_
        refine lv_sipush (v := 255) hx hb dX1_writeByte_87 (by decide) ?_
        refine lv_iand hx hb dX1_writeByte_90 ?_
        refine lv_topi (fun v55 ev55 => ?_)
        have iv55 : iv v55 0 255 := iv_eq ev55 (iv_and (x := x1) (iv_w (by decide : iv 255 255 255) (by decide) (by decide) : iv 255 0 255))
        refine lv_bipush (v := 8) hx hb dX1_writeByte_91 (by decide) ?_
        refine lv_ishl hx hb dX1_writeByte_93 ?_
        refine lv_topi (fun v56 ev56 => ?_)
        have iv56 : iv v56 0 65280 := iv_eq ev56 (iv_shl 8 (by decide) iv55 (by decide) (by decide) (by decide) (by decide))
        refine lv_ior hx hb dX1_writeByte_94 ?_
        refine lv_topi (fun v57 ev57 => ?_)
        have iv57 : iv v57 0 65535 := iv_eq ev57 (iv_or 16 (iv_w iv54 (by decide) (by decide) : iv v54 0 255) (iv_w iv56 (by decide) (by decide) : iv v56 0 65280) (by decide) (by decide) (by decide))
        exact j25 v57 iv57 _ _ hK hP hD hS ls (lv_sub hl [1, 3] rfl)
      · skip
        subst c15
        refine lv_iload hx hb dX1_writeByte_66 (lv_at hl 0 rfl) ?_
        refine lv_ldc hx hb hown (hG _ wd_740) dX1_writeByte_68 ?_
        refine lv_iand hx hb dX1_writeByte_70 ?_
        refine lv_topi (fun v58 ev58 => ?_)
        have iv58 : iv v58 0 65280 := iv_eq ev58 (iv_and (x := b12) (iv_w (by decide : iv 65280 65280 65280) (by decide) (by decide) : iv 65280 0 65280))
        refine lv_iload_n hx hb dX1_writeByte_71 rfl (lv_at hl 4 rfl) ?_
        refine lv_sipush (v := 255) hx hb dX1_writeByte_72 (by decide) ?_
        refine lv_iand hx hb dX1_writeByte_75 ?_
        refine lv_topi (fun v59 ev59 => ?_)
        have iv59 : iv v59 0 255 := iv_eq ev59 (iv_and (x := x1) (iv_w (by decide : iv 255 255 255) (by decide) (by decide) : iv 255 0 255))
        refine lv_ior hx hb dX1_writeByte_76 ?_
        refine lv_topi (fun v60 ev60 => ?_)
        have iv60 : iv v60 0 65535 := iv_eq ev60 (iv_or 16 (iv_w iv58 (by decide) (by decide) : iv v58 0 65280) (iv_w iv59 (by decide) (by decide) : iv v59 0 255) (by decide) (by decide) (by decide))
        refine lv_goto (tgt := 95) hx hb dX1_writeByte_77 (by decide) ?_
        exact j25 v60 iv60 _ _ hK hP hD hS ls (lv_sub hl [1, 3] rfl)
    refine lv_icmp_ge (tgt := 49) hx hb dX1_writeByte_37 (by decide) (fun c5 => ?_) (fun c5 => ?_)
    · skip
      have j61 : iv v4 512 65534 := iv_leR (by decide : iv 512 512 512) iv4 c5 (by decide)
      refine lv_aload_n hx hb dX1_writeByte_49 rfl (lv_at hl 2 rfl) ?_
      refine va_get (D := (dC, dI)) (ci := 1) (v := .ref h1) (C := RX1) (T := TX1) (N := 4) hx hb hG inGX1 hown hK hP 0 rfl rfl 0 (by decide) (hG _ wd_114) (fun _ h9 => h9) rfl dX1_writeByte_50 ?_
      refine lv_iload hx hb dX1_writeByte_53 (lv_at hl 0 rfl) ?_
      refine lv_iconst (v := 1) hx hb dX1_writeByte_55 (by decide) ?_
      refine lv_ishr hx hb dX1_writeByte_56 ?_
      refine lv_topi (fun v62 ev62 => ?_)
      have iv62 : iv v62 256 32767 := iv_eq ev62 (iv_shr 1 (by decide) j61 (by decide) (by decide))
      refine va_iald hx hb hK hP 1 0 rfl rfl (iv_in iv62 (by decide) (by decide) : vp_in v62 32768) dX1_writeByte_57 ?_
      refine lv_topi (fun v63 ev63 => ?_)
      exact j13 v63 _ _ hK hP hD hS ls (lv_sub hl [0, 1, 2, 4] rfl)
    · skip
      have j64 : iv v4 0 511 := iv_nleR (by decide : iv 512 512 512) iv4 c5 (by decide)
      refine lv_aload_n hx hb dX1_writeByte_40 rfl (lv_at hl 2 rfl) ?_
      refine lv_iload hx hb dX1_writeByte_41 (lv_at hl 0 rfl) ?_
      obtain ⟨hPc, hDc, hFc⟩ := nv_sub3 (wc := [(h0, .inr (1, [.ref h1, .ref h2, .ref h3, .ref h4])), (h4, .inr (9, [.ref h5, .ref h6, .int x2, .int x3, .int x4, .int x5])), (h6, .inl (y1, 3, .inl f1)), (h5, .inl (y2, 3, .inl f2)), (h3, .inr (5, [.int x6, .int x7, .int x8, .int x9, .int x10, .int x11])), (h2, .inr (7, [.int x12, .int x13, .int x14, .int x15, .int x16]))]) hP hD hS hA [0, 2, 3, 4, 5, 6] (by decide) rfl
      have hKc := hK.sub (tys' := [(y1, .int), (y2, .int)]) [1, 2] rfl
      refine va_calli (va_runV (As := [.int v4]) (rest := []) ⟨hx, hb, hml, hown, hG⟩ (cX1_thingWord_1 l dC dI h0 h1 h2 h3 h4 h5 h6 y1 y2 s.heap.size v4 x2 x3 x4 x5 x6 x7 x8 x9 x10 x11 x12 x13 x14 x15 x16 f1 f2 ix5) (cwV 1 hG (gV wd_720 wd_722 wp_27 wd_2 wd_723) rfl rfl rfl (by decide +kernel) ⟨Nat.le_of_ble_eq_true rfl, Nat.le_of_ble_eq_true rfl⟩) ⟨fun a U g mk q => by obtain ⟨q0, q1, qP, qK, qD⟩ := q; exact ⟨q0, q1, qP, va_K.moved (u := U) (U := U.calling g mk a) (Vm.Alike.refl U.vm) qK, qD⟩, va_recv hKc hPc (ci := 1) (q0 := 0) rfl rfl, fun U hU hW => ⟨rfl, by rw [hU], by rw [hU]; exact hPc, va_K.moved hW.alike hKc, hDc.weaken (fun _ _ _ _ => trivial)⟩⟩ rfl rfl hl.1 rfl (lv_room (Nat.le_of_ble_eq_true rfl)) dX1_writeByte_43 ⟨by decide, by decide⟩) hS (fun q _ h => hFc q h) hFc (fun r65 u66 t H1 locs ht hvm hw hB hz1 hk1 hS => ?_)
      obtain ⟨hP1, hK1, hD1⟩ := hB
      rw [ht] at hP1
      have hK1 := va_K.moved hvm.symm hK1
      obtain ⟨hP, hD⟩ := nv_join (wf := [(h1, .inl (y0, 32768, .inl f0)), (h0, .inr (1, [.ref h1, .ref h2, .ref h3, .ref h4])), (h4, .inr (9, [.ref h5, .ref h6, .int x2, .int x3, .int x4, .int x5])), (h6, .inl (y1, 3, .inl f1)), (h5, .inl (y2, 3, .inl f2)), (h3, .inr (5, [.int x6, .int x7, .int x8, .int x9, .int x10, .int x11])), (h2, .inr (7, [.int x12, .int x13, .int x14, .int x15, .int x16]))]) hP hD [0, 2, 3, 4, 5, 6] [1] rfl rfl (by decide) (by decide) hk1 hFc hP1 hD1 rfl
      have hK := (hK.sub (tys' := [(y0, .int)]) [0] rfl).app hK1
      generalize H1 = H at hP hS ⊢
      have hK : va_K (dC, dI) vwCl [(y0, .int), (y1, .int), (y2, .int)] s := hK
      refine lv_goto (tgt := 58) hx hb dX1_writeByte_46 (by decide) ?_
      exact j13 r65 _ _ hK (hP.sub (ws' := _) [1, 0, 2, 3, 4, 5, 6] rfl) (hD.sub (ws' := _) [1, 0, 2, 3, 4, 5, 6] (by decide) rfl) hS ls (lv_sub hl [0, 1, 2, 4] rfl)
  · skip
    have j67 : iv v1 0 287 := iv_nleR (by decide : iv 288 288 288) iv1 c2 (by decide)
    refine lv_aload_n hx hb dX1_writeByte_12 rfl (lv_at hl 1 rfl) ?_
    refine va_get (D := (dC, dI)) (ci := 1) (v := .ref h2) (C := RX1) (T := TX1) (N := 4) hx hb hG inGX1 hown hK hP 0 rfl rfl 1 (by decide) (hG _ wd_115) (fun _ h9 => h9) rfl dX1_writeByte_13 ?_
    refine lv_iload_n hx hb dX1_writeByte_16 rfl (lv_at hl 0 rfl) ?_
    refine lv_iload_n hx hb dX1_writeByte_17 rfl (lv_at hl 3 rfl) ?_
    refine lv_sipush (v := 255) hx hb dX1_writeByte_18 (by decide) ?_
    refine lv_iand hx hb dX1_writeByte_21 ?_
    refine lv_topi (fun v68 ev68 => ?_)
    have iv68 : iv v68 0 255 := iv_eq ev68 (iv_and (x := x1) (iv_w (by decide : iv 255 255 255) (by decide) (by decide) : iv 255 0 255))
    obtain ⟨hPc, hDc, hFc⟩ := nv_sub3 (wc := [(h2, .inr (7, [.int x12, .int x13, .int x14, .int x15, .int x16]))]) hP hD hS hA [6] (by decide) rfl
    have hKc := hK.sub (tys' := []) [] rfl
    refine va_callv (va_runV (As := [.int v1, .int v68]) (rest := []) ⟨hx, hb, hml, hown, hG⟩ (cX7_write_1 l dC dI h2 s.heap.size v1 v68 x12 x13 x14 x15 x16) (cwV 2 hG (gV wd_715 wd_716 wd_717 wd_3 wd_718) rfl rfl rfl (by decide +kernel) ⟨Nat.le_of_ble_eq_true rfl, Nat.le_of_ble_eq_true rfl⟩) ⟨fun a U g mk q => by obtain ⟨q0, q1, qP, qK, qD⟩ := q; exact ⟨q0, q1, qP, va_K.moved (u := U) (U := U.calling g mk a) (Vm.Alike.refl U.vm) qK, qD⟩, va_recv hKc hPc (ci := 7) (q0 := 0) rfl rfl, fun U hU hW => ⟨rfl, by rw [hU], by rw [hU]; exact hPc, va_K.moved hW.alike hKc, hDc.weaken (fun _ _ _ _ => trivial)⟩⟩ rfl rfl hl.1 rfl (lv_room (Nat.le_of_ble_eq_true rfl)) dX1_writeByte_22 ⟨by decide, by decide⟩) hS (fun q _ h => hFc q h) hFc (fun u70 t H1 locs ht hvm hw hB hz1 hk1 hS => ?_)
    obtain ⟨u70_0, u70_1, u70_2, u70_3⟩ := u70
    obtain ⟨hP1, hK1, hD1⟩ := hB
    rw [ht] at hP1
    have hK1 := va_K.moved hvm.symm hK1
    obtain ⟨hP, hD⟩ := nv_join (wf := [(h0, .inr (1, [.ref h1, .ref h2, .ref h3, .ref h4])), (h1, .inl (y0, 32768, .inl f0)), (h4, .inr (9, [.ref h5, .ref h6, .int x2, .int x3, .int x4, .int x5])), (h6, .inl (y1, 3, .inl f1)), (h5, .inl (y2, 3, .inl f2)), (h3, .inr (5, [.int x6, .int x7, .int x8, .int x9, .int x10, .int x11])), (h2, .inr (7, [.int x12, .int u70_0, .int u70_1, .int u70_2, .int u70_3]))]) hP hD [6] [0, 1, 2, 3, 4, 5] rfl rfl (by decide) (by decide) hk1 hFc hP1 hD1 rfl
    have hK := (hK.sub (tys' := [(y0, .int), (y1, .int), (y2, .int)]) [0, 1, 2] rfl).app hK1
    generalize H1 = H at hP hS ⊢
    have hK : va_K (dC, dI) vwCl [(y0, .int), (y1, .int), (y2, .int)] s := hK
    rw [hQ]
    obtain ⟨hP9, hD9⟩ := nv_sub2 (wc := [(h0, .inr (1, [.ref h1, .ref h2, .ref h3, .ref h4])), (h1, .inl (y0, 32768, .inl f0)), (h4, .inr (9, [.ref h5, .ref h6, .int x2, .int x3, .int x4, .int x5])), (h6, .inl (y1, 3, .inl f1)), (h5, .inl (y2, 3, .inl f2)), (h3, .inr (5, [.int x6, .int x7, .int x8, .int x9, .int x10, .int x11])), (h2, .inr (7, [.int x12, .int u70_0, .int u70_1, .int u70_2, .int u70_3]))]) hP hD [0, 1, 2, 3, 4, 5, 6] (by decide) rfl
    have hK9 := hK.sub (tys' := [(y0, .int), (y1, .int), (y2, .int)]) [0, 1, 2] rfl
    exact W.vret hx hb hr (fun t ht hW => ⟨⟨(f0, x2, x3, x4, x5, f1, f2, x6, x7, x8, x9, x10, x11, u70_0, u70_1, u70_2, u70_3), rfl, ⟨iv_w ix5 (by decide) (by decide), trivial⟩, by rw [ht]; exact hP9, va_K.moved hW.alike hK9, hD9⟩, hS.F ht⟩) hS.2.2 dX1_writeByte_25
set_option maxHeartbeats 100000000 in
set_option maxRecDepth 100000 in
theorem cX0_writeTo_1 (l : Launch) (dC : Nat → ClassId) (dI : Nat → Nat → Nat) (h0 h1 h2 h3 h4 h5 h6 h7 h8 h9 h10 h11 h12 h13 h14 : Nat) (y0 y1 y2 y3 y4 : ClassId) (sz : Nat) (x0 x1 x2 x3 x4 x5 x6 x7 x8 x9 x10 x11 x12 x13 x14 x15 x16 x17 x18 x19 x20 x21 x22 x23 x24 : Int32) (f0 f1 f2 f3 f4 : Nat → Int32) (ix0 : iv x0 0 2600) (ix1 : iv x1 0 1) (ix7 : iv x7 0 1) (ix13 : iv x13 0 1) : Met l yX0_writeTo (Cond.code yX0_writeTo cX0_writeTo 3 (some .int) :: lw_G) ({ frames := 4, cells := 0, slots := 0, locals := 92 }) (va_Pc [.ref h0, .ref h1] (fun U => U.heap.size = sz ∧ va_P (dC, dI) vwCl [(h0, .inr (0, [.ref h2, .ref h3, .ref h4, .ref h5, .ref h6, .ref h7, .ref h8, .int x0, .int x1, .int x2, .int x3, .int x4, .int x5, .int x6, .int x7, .int x8, .int x9])), (h6, .inl (y0, 2600, .inl f0)), (h5, .inl (y1, 2600, .inl f1)), (h1, .inr (1, [.ref h9, .ref h10, .ref h11, .ref h12])), (h9, .inl (y2, 32768, .inl f2)), (h12, .inr (9, [.ref h13, .ref h14, .int x10, .int x11, .int x12, .int x13])), (h14, .inl (y3, 3, .inl f3)), (h13, .inl (y4, 3, .inl f4)), (h11, .inr (5, [.int x14, .int x15, .int x16, .int x17, .int x18, .int x19])), (h10, .inr (7, [.int x20, .int x21, .int x22, .int x23, .int x24]))] U.heap ∧ va_K (dC, dI) vwCl [(y0, .int), (y1, .int), (y2, .int), (y3, .int), (y4, .int)] U ∧ va_D (fun _ => True) [(h0, .inr (0, [.ref h2, .ref h3, .ref h4, .ref h5, .ref h6, .ref h7, .ref h8, .int x0, .int x1, .int x2, .int x3, .int x4, .int x5, .int x6, .int x7, .int x8, .int x9])), (h6, .inl (y0, 2600, .inl f0)), (h5, .inl (y1, 2600, .inl f1)), (h1, .inr (1, [.ref h9, .ref h10, .ref h11, .ref h12])), (h9, .inl (y2, 32768, .inl f2)), (h12, .inr (9, [.ref h13, .ref h14, .int x10, .int x11, .int x12, .int x13])), (h14, .inl (y3, 3, .inl f3)), (h13, .inl (y4, 3, .inl f4)), (h11, .inr (5, [.int x14, .int x15, .int x16, .int x17, .int x18, .int x19])), (h10, .inr (7, [.int x20, .int x21, .int x22, .int x23, .int x24]))])) (va_Qi (fun (r : Int32) (u : (Nat → Int32) × Int32 × Int32 × Int32 × Int32 × (Nat → Int32) × (Nat → Int32) × Int32 × Int32 × Int32 × Int32 × Int32 × Int32 × Int32 × Int32 × Int32 × Int32) => iv r 0 2600 ∧ iv u.2.2.2.2.1 0 1 ∧ True) (fun (u : (Nat → Int32) × Int32 × Int32 × Int32 × Int32 × (Nat → Int32) × (Nat → Int32) × Int32 × Int32 × Int32 × Int32 × Int32 × Int32 × Int32 × Int32 × Int32 × Int32) (t : State) => va_P (dC, dI) vwCl [(h0, .inr (0, [.ref h2, .ref h3, .ref h4, .ref h5, .ref h6, .ref h7, .ref h8, .int x0, .int x1, .int x2, .int x3, .int x4, .int x5, .int x6, .int x7, .int x8, .int x9])), (h6, .inl (y0, 2600, .inl f0)), (h5, .inl (y1, 2600, .inl f1)), (h1, .inr (1, [.ref h9, .ref h10, .ref h11, .ref h12])), (h9, .inl (y2, 32768, .inl u.1)), (h12, .inr (9, [.ref h13, .ref h14, .int u.2.1, .int u.2.2.1, .int u.2.2.2.1, .int u.2.2.2.2.1])), (h14, .inl (y3, 3, .inl u.2.2.2.2.2.1)), (h13, .inl (y4, 3, .inl u.2.2.2.2.2.2.1)), (h11, .inr (5, [.int u.2.2.2.2.2.2.2.1, .int u.2.2.2.2.2.2.2.2.1, .int u.2.2.2.2.2.2.2.2.2.1, .int u.2.2.2.2.2.2.2.2.2.2.1, .int u.2.2.2.2.2.2.2.2.2.2.2.1, .int u.2.2.2.2.2.2.2.2.2.2.2.2.1])), (h10, .inr (7, [.int x20, .int u.2.2.2.2.2.2.2.2.2.2.2.2.2.1, .int u.2.2.2.2.2.2.2.2.2.2.2.2.2.2.1, .int u.2.2.2.2.2.2.2.2.2.2.2.2.2.2.2.1, .int u.2.2.2.2.2.2.2.2.2.2.2.2.2.2.2.2]))] t.heap ∧ va_K (dC, dI) vwCl [(y0, .int), (y1, .int), (y2, .int), (y3, .int), (y4, .int)] t ∧ va_D (va_A [(h0, .inr (0, [.ref h2, .ref h3, .ref h4, .ref h5, .ref h6, .ref h7, .ref h8, .int x0, .int x1, .int x2, .int x3, .int x4, .int x5, .int x6, .int x7, .int x8, .int x9])), (h6, .inl (y0, 2600, .inl f0)), (h5, .inl (y1, 2600, .inl f1)), (h1, .inr (1, [.ref h9, .ref h10, .ref h11, .ref h12])), (h9, .inl (y2, 32768, .inl f2)), (h12, .inr (9, [.ref h13, .ref h14, .int x10, .int x11, .int x12, .int x13])), (h14, .inl (y3, 3, .inl f3)), (h13, .inl (y4, 3, .inl f4)), (h11, .inr (5, [.int x14, .int x15, .int x16, .int x17, .int x18, .int x19])), (h10, .inr (7, [.int x20, .int x21, .int x22, .int x23, .int x24]))] sz) [(h0, .inr (0, [.ref h2, .ref h3, .ref h4, .ref h5, .ref h6, .ref h7, .ref h8, .int x0, .int x1, .int x2, .int x3, .int x4, .int x5, .int x6, .int x7, .int x8, .int x9])), (h6, .inl (y0, 2600, .inl f0)), (h5, .inl (y1, 2600, .inl f1)), (h1, .inr (1, [.ref h9, .ref h10, .ref h11, .ref h12])), (h9, .inl (y2, 32768, .inl u.1)), (h12, .inr (9, [.ref h13, .ref h14, .int u.2.1, .int u.2.2.1, .int u.2.2.2.1, .int u.2.2.2.2.1])), (h14, .inl (y3, 3, .inl u.2.2.2.2.2.1)), (h13, .inl (y4, 3, .inl u.2.2.2.2.2.2.1)), (h11, .inr (5, [.int u.2.2.2.2.2.2.2.1, .int u.2.2.2.2.2.2.2.2.1, .int u.2.2.2.2.2.2.2.2.2.1, .int u.2.2.2.2.2.2.2.2.2.2.1, .int u.2.2.2.2.2.2.2.2.2.2.2.1, .int u.2.2.2.2.2.2.2.2.2.2.2.2.1])), (h10, .inr (7, [.int x20, .int u.2.2.2.2.2.2.2.2.2.2.2.2.2.1, .int u.2.2.2.2.2.2.2.2.2.2.2.2.2.2.1, .int u.2.2.2.2.2.2.2.2.2.2.2.2.2.2.2.1, .int u.2.2.2.2.2.2.2.2.2.2.2.2.2.2.2.2]))]) (va_A [(h0, .inr (0, [.ref h2, .ref h3, .ref h4, .ref h5, .ref h6, .ref h7, .ref h8, .int x0, .int x1, .int x2, .int x3, .int x4, .int x5, .int x6, .int x7, .int x8, .int x9])), (h6, .inl (y0, 2600, .inl f0)), (h5, .inl (y1, 2600, .inl f1)), (h1, .inr (1, [.ref h9, .ref h10, .ref h11, .ref h12])), (h9, .inl (y2, 32768, .inl f2)), (h12, .inr (9, [.ref h13, .ref h14, .int x10, .int x11, .int x12, .int x13])), (h14, .inl (y3, 3, .inl f3)), (h13, .inl (y4, 3, .inl f4)), (h11, .inr (5, [.int x14, .int x15, .int x16, .int x17, .int x18, .int x19])), (h10, .inr (7, [.int x20, .int x21, .int x22, .int x23, .int x24]))] sz)) 0 0 (va_A [(h0, .inr (0, [.ref h2, .ref h3, .ref h4, .ref h5, .ref h6, .ref h7, .ref h8, .int x0, .int x1, .int x2, .int x3, .int x4, .int x5, .int x6, .int x7, .int x8, .int x9])), (h6, .inl (y0, 2600, .inl f0)), (h5, .inl (y1, 2600, .inl f1)), (h1, .inr (1, [.ref h9, .ref h10, .ref h11, .ref h12])), (h9, .inl (y2, 32768, .inl f2)), (h12, .inr (9, [.ref h13, .ref h14, .int x10, .int x11, .int x12, .int x13])), (h14, .inl (y3, 3, .inl f3)), (h13, .inl (y4, 3, .inl f4)), (h11, .inr (5, [.int x14, .int x15, .int x16, .int x17, .int x18, .int x19])), (h10, .inr (7, [.int x20, .int x21, .int x22, .int x23, .int x24]))] sz) := by
  refine Met.ofW (cc := cX0_writeTo) (maxL := 3) (ret := (some .int)) (by decide) rfl ?_
  intro p e s m args below meth c s₁ B hml hv
  obtain ⟨rfl, hsz, hP, hK, hD0⟩ := hv
  have hx := B.exec
  have hb := B.bytes
  have hr := B.returns
  have hts0 := atoms_spec (ws := Cond.code yX0_writeTo cX0_writeTo 3 (some .int) :: lw_G) B.pre
  have hG : ∀ w ∈ lw_G, w.before _ s = true := fun w h => hts0 w (List.mem_cons_of_mem _ h)
  have hown : s.vm.findClass RX0 = some m.cls := findClass_of_methodNamed B.named
  have hlocks := B.notSynchronized
  subst hsz
  have hD := hD0.self (sz := s.heap.size)
  generalize hAe : va_A [(h0, .inr (0, [.ref h2, .ref h3, .ref h4, .ref h5, .ref h6, .ref h7, .ref h8, .int x0, .int x1, .int x2, .int x3, .int x4, .int x5, .int x6, .int x7, .int x8, .int x9])), (h6, .inl (y0, 2600, .inl f0)), (h5, .inl (y1, 2600, .inl f1)), (h1, .inr (1, [.ref h9, .ref h10, .ref h11, .ref h12])), (h9, .inl (y2, 32768, .inl f2)), (h12, .inr (9, [.ref h13, .ref h14, .int x10, .int x11, .int x12, .int x13])), (h14, .inl (y3, 3, .inl f3)), (h13, .inl (y4, 3, .inl f4)), (h11, .inr (5, [.int x14, .int x15, .int x16, .int x17, .int x18, .int x19])), (h10, .inr (7, [.int x20, .int x21, .int x22, .int x23, .int x24]))] s.heap.size = A at hD ⊢
  have hA : ∀ q : Nat, s.heap.size ≤ q → A q := fun q h => by rw [← hAe]; exact Or.inr h
  have hS : va_S A s.heap s.heap [] := va_S.rf
  have hP : va_P (dC, dI) vwCl [(h0, .inr (0, [.ref h2, .ref h3, .ref h4, .ref h5, .ref h6, .ref h7, .ref h8, .int x0, .int x1, .int x2, .int x3, .int x4, .int x5, .int x6, .int x7, .int x8, .int x9])), (h6, .inl (y0, 2600, .inl f0)), (h5, .inl (y1, 2600, .inl f1)), (h1, .inr (1, [.ref h9, .ref h10, .ref h11, .ref h12])), (h9, .inl (y2, 32768, .inl f2)), (h12, .inr (9, [.ref h13, .ref h14, .int x10, .int x11, .int x12, .int x13])), (h14, .inl (y3, 3, .inl f3)), (h13, .inl (y4, 3, .inl f4)), (h11, .inr (5, [.int x14, .int x15, .int x16, .int x17, .int x18, .int x19])), (h10, .inr (7, [.int x20, .int x21, .int x22, .int x23, .int x24]))] s.heap := hP
  have hl := lv_entry ([.ref h0, .ref h1]) (n := 3) (Nat.le_of_ble_eq_true rfl)
  rw [lg_entry_eq]
  generalize (lg_sl ([.ref h0, .ref h1]) ++ List.replicate (3 - (lg_sl ([.ref h0, .ref h1])).length) Slot.unset).toArray = ls at hl ⊢
  have hl : lv_has ls 3 [(0, .ref h0), (1, .ref h1)] := hl
  generalize ([.ref h0, .ref h1] : List Value).toArray = ar at hG ⊢
  refine wq (fun Q hQ => ?_)
  refine lv_iconst (v := 0) hx hb dX0_writeTo_0 (by decide) ?_
  refine lv_istore_n (lv' := [(2, .int 0), (0, .ref h0), (1, .ref h1)]) hx hb dX0_writeTo_1 rfl hl (by decide) rfl (fun ls hl => ?_)
  refine jcut (a := ∀ (n : Nat) (b988 : Int32) (b989 : Nat → Int32) (b990 : Int32) (b991 : Int32) (b992 : Int32) (b993 : Int32) (b994 : Nat → Int32) (b995 : Nat → Int32) (b996 : Int32) (b997 : Int32) (b998 : Int32) (b999 : Int32) (b1000 : Int32) (b1001 : Int32) (b1002 : Int32) (b1003 : Int32) (b1004 : Int32) (b1005 : Int32) (ib988 : iv b988 0 2600) (ib993 : iv b993 0 1) (hm : (2600 - b988.toInt).toNat < n) (H : Heap) (locs : List Loc) (hK : va_K (dC, dI) vwCl [(y0, .int), (y1, .int), (y2, .int), (y3, .int), (y4, .int)] s) (hP : va_P (dC, dI) vwCl [(h0, .inr (0, [.ref h2, .ref h3, .ref h4, .ref h5, .ref h6, .ref h7, .ref h8, .int x0, .int x1, .int x2, .int x3, .int x4, .int x5, .int x6, .int x7, .int x8, .int x9])), (h6, .inl (y0, 2600, .inl f0)), (h5, .inl (y1, 2600, .inl f1)), (h1, .inr (1, [.ref h9, .ref h10, .ref h11, .ref h12])), (h9, .inl (y2, 32768, .inl b989)), (h12, .inr (9, [.ref h13, .ref h14, .int b990, .int b991, .int b992, .int b993])), (h14, .inl (y3, 3, .inl b994)), (h13, .inl (y4, 3, .inl b995)), (h11, .inr (5, [.int b996, .int b997, .int b998, .int b999, .int b1000, .int b1001])), (h10, .inr (7, [.int x20, .int b1002, .int b1003, .int b1004, .int b1005]))] H) (hD : va_D A [(h0, .inr (0, [.ref h2, .ref h3, .ref h4, .ref h5, .ref h6, .ref h7, .ref h8, .int x0, .int x1, .int x2, .int x3, .int x4, .int x5, .int x6, .int x7, .int x8, .int x9])), (h6, .inl (y0, 2600, .inl f0)), (h5, .inl (y1, 2600, .inl f1)), (h1, .inr (1, [.ref h9, .ref h10, .ref h11, .ref h12])), (h9, .inl (y2, 32768, .inl b989)), (h12, .inr (9, [.ref h13, .ref h14, .int b990, .int b991, .int b992, .int b993])), (h14, .inl (y3, 3, .inl b994)), (h13, .inl (y4, 3, .inl b995)), (h11, .inr (5, [.int b996, .int b997, .int b998, .int b999, .int b1000, .int b1001])), (h10, .inr (7, [.int x20, .int b1002, .int b1003, .int b1004, .int b1005]))]) (hS : va_S A s.heap H locs) (ls : Array Slot) (hl : lv_has ls 3 [(2, .int b988), (0, .ref h0), (1, .ref h1)]), W p l e (headSpec (Cond.code yX0_writeTo cX0_writeTo 3 (some .int) :: lw_G) ({ frames := 4, cells := 0, slots := 0, locals := 92 })).room s m ar below meth c H locs 0 0 Q (F0 m 2 ls [])) ?_ (fun lp1034 => ?_)
  · skip
    intro n
    induction n with
    | zero => intro b988 b989 b990 b991 b992 b993 b994 b995 b996 b997 b998 b999 b1000 b1001 b1002 b1003 b1004 b1005 ib988 ib993 hm H locs hK hP hD hS ls hl; exact absurd hm (Nat.not_lt_zero _)
    | succ n ih =>
      intro b988 b989 b990 b991 b992 b993 b994 b995 b996 b997 b998 b999 b1000 b1001 b1002 b1003 b1004 b1005 ib988 ib993 hm H locs hK hP hD hS ls hl
      refine lv_iload_n hx hb dX0_writeTo_2 rfl (lv_at hl 0 rfl) ?_
      refine lv_aload_n hx hb dX0_writeTo_3 rfl (lv_at hl 1 rfl) ?_
      refine va_get (D := (dC, dI)) (ci := 0) (v := .int x0) (C := RX0) (T := TX0) (N := 17) hx hb hG inGX0 hown hK hP 0 rfl rfl 7 (by decide) (hG _ wd_328) (fun _ h9 => h9) rfl dX0_writeTo_4 ?_
      refine lv_icmp_ge (tgt := 39) hx hb dX0_writeTo_7 (by decide) (fun c1035 => ?_) (fun c1035 => ?_)
      · skip
        have rl1045 : x0.toInt ≤ b988.toInt := Int32.le_iff_toInt_le.mp c1035
        refine lv_aload_n hx hb dX0_writeTo_39 rfl (lv_at hl 1 rfl) ?_
        refine va_get (D := (dC, dI)) (ci := 0) (v := .int x0) (C := RX0) (T := TX0) (N := 17) hx hb hG inGX0 hown hK hP 0 rfl rfl 7 (by decide) (hG _ wd_328) (fun _ h9 => h9) rfl dX0_writeTo_40 ?_
        rw [hQ]
        obtain ⟨hP9, hD9⟩ := nv_sub2 (wc := [(h0, .inr (0, [.ref h2, .ref h3, .ref h4, .ref h5, .ref h6, .ref h7, .ref h8, .int x0, .int x1, .int x2, .int x3, .int x4, .int x5, .int x6, .int x7, .int x8, .int x9])), (h6, .inl (y0, 2600, .inl f0)), (h5, .inl (y1, 2600, .inl f1)), (h1, .inr (1, [.ref h9, .ref h10, .ref h11, .ref h12])), (h9, .inl (y2, 32768, .inl b989)), (h12, .inr (9, [.ref h13, .ref h14, .int b990, .int b991, .int b992, .int b993])), (h14, .inl (y3, 3, .inl b994)), (h13, .inl (y4, 3, .inl b995)), (h11, .inr (5, [.int b996, .int b997, .int b998, .int b999, .int b1000, .int b1001])), (h10, .inr (7, [.int x20, .int b1002, .int b1003, .int b1004, .int b1005]))]) hP hD [0, 1, 2, 3, 4, 5, 6, 7, 8, 9] (by decide) rfl
        have hK9 := hK.sub (tys' := [(y0, .int), (y1, .int), (y2, .int), (y3, .int), (y4, .int)]) [0, 1, 2, 3, 4] rfl
        exact W.iret (v := x0) hx hb hr (fun t ht hW => ⟨⟨x0, (b989, b990, b991, b992, b993, b994, b995, b996, b997, b998, b999, b1000, b1001, b1002, b1003, b1004, b1005), rfl, ⟨iv_w ix0 (by decide) (by decide), iv_w ib993 (by decide) (by decide), trivial⟩, by rw [ht]; exact hP9, va_K.moved hW.alike hK9, hD9⟩, hS.F ht⟩) hS.2.2 dX0_writeTo_43
      · skip
        have rl1046 : b988.toInt < x0.toInt := iv_nle2 c1035
        have j1047 : iv x0 1 2600 := iv_nleL ix0 ib988 c1035 (by decide)
        have j1048 : iv b988 0 2599 := iv_nleR ix0 ib988 c1035 (by decide)
        refine lv_iload_n hx hb dX0_writeTo_10 rfl (lv_at hl 0 rfl) ?_
        refine lv_sipush (v := 2600) hx hb dX0_writeTo_11 (by decide) ?_
        refine lv_icmp_ge (tgt := 39) hx hb dX0_writeTo_14 (by decide) (fun c => absurd c (iv_nle (by decide : iv 2600 2600 2600) j1048 (by decide))) (fun _ => ?_)
        refine lv_aload_n hx hb dX0_writeTo_17 rfl (lv_at hl 2 rfl) ?_
        refine lv_aload_n hx hb dX0_writeTo_18 rfl (lv_at hl 1 rfl) ?_
        refine va_get (D := (dC, dI)) (ci := 0) (v := .ref h6) (C := RX0) (T := TX0) (N := 17) hx hb hG inGX0 hown hK hP 0 rfl rfl 4 (by decide) (hG _ wd_325) (fun _ h9 => h9) rfl dX0_writeTo_19 ?_
        refine lv_iload_n hx hb dX0_writeTo_22 rfl (lv_at hl 0 rfl) ?_
        refine va_iald hx hb hK hP 1 0 rfl rfl (iv_in j1048 (by decide) (by decide) : vp_in b988 2600) dX0_writeTo_23 ?_
        refine lv_topi (fun v1049 ev1049 => ?_)
        refine lv_aload_n hx hb dX0_writeTo_24 rfl (lv_at hl 1 rfl) ?_
        refine va_get (D := (dC, dI)) (ci := 0) (v := .ref h5) (C := RX0) (T := TX0) (N := 17) hx hb hG inGX0 hown hK hP 0 rfl rfl 3 (by decide) (hG _ wd_324) (fun _ h9 => h9) rfl dX0_writeTo_25 ?_
        refine lv_iload_n hx hb dX0_writeTo_28 rfl (lv_at hl 0 rfl) ?_
        refine va_iald hx hb hK hP 2 1 rfl rfl (iv_in j1048 (by decide) (by decide) : vp_in b988 2600) dX0_writeTo_29 ?_
        refine lv_topi (fun v1050 ev1050 => ?_)
        obtain ⟨hPc, hDc, hFc⟩ := nv_sub3 (wc := [(h1, .inr (1, [.ref h9, .ref h10, .ref h11, .ref h12])), (h9, .inl (y2, 32768, .inl b989)), (h12, .inr (9, [.ref h13, .ref h14, .int b990, .int b991, .int b992, .int b993])), (h14, .inl (y3, 3, .inl b994)), (h13, .inl (y4, 3, .inl b995)), (h11, .inr (5, [.int b996, .int b997, .int b998, .int b999, .int b1000, .int b1001])), (h10, .inr (7, [.int x20, .int b1002, .int b1003, .int b1004, .int b1005]))]) hP hD hS hA [3, 4, 5, 6, 7, 8, 9] (by decide) rfl
        have hKc := hK.sub (tys' := [(y2, .int), (y3, .int), (y4, .int)]) [2, 3, 4] rfl
        refine va_callv (va_runV (As := [.int v1049, .int v1050]) (rest := []) ⟨hx, hb, hml, hown, hG⟩ (cX1_writeByte_1 l dC dI h1 h9 h10 h11 h12 h13 h14 y2 y3 y4 H.size v1049 v1050 b990 b991 b992 b993 b996 b997 b998 b999 b1000 b1001 x20 b1002 b1003 b1004 b1005 b989 b994 b995 ib993) (cwV 2 hG (gV wd_710 wd_711 wd_712 wd_2 wd_713) rfl rfl rfl (by decide +kernel) ⟨Nat.le_of_ble_eq_true rfl, Nat.le_of_ble_eq_true rfl⟩) ⟨fun a U g mk q => by obtain ⟨q0, q1, qP, qK, qD⟩ := q; exact ⟨q0, q1, qP, va_K.moved (u := U) (U := U.calling g mk a) (Vm.Alike.refl U.vm) qK, qD⟩, va_recv hKc hPc (ci := 1) (q0 := 0) rfl rfl, fun U hU hW => ⟨rfl, by rw [hU], by rw [hU]; exact hPc, va_K.moved hW.alike hKc, hDc.weaken (fun _ _ _ _ => trivial)⟩⟩ rfl rfl hl.1 rfl (lv_room (Nat.le_of_ble_eq_true rfl)) dX0_writeTo_30 ⟨by decide, by decide⟩) hS (fun q _ h => hFc q h) hFc (fun u1052 t H1 locs ht hvm hw hB hz1 hk1 hS => ?_)
        obtain ⟨u1052_0, u1052_1, u1052_2, u1052_3, u1052_4, u1052_5, u1052_6, u1052_7, u1052_8, u1052_9, u1052_10, u1052_11, u1052_12, u1052_13, u1052_14, u1052_15, u1052_16⟩ := u1052
        have hw : iv u1052_4 0 1 ∧ True := hw
        obtain ⟨iu1052_4, -⟩ := hw
        obtain ⟨hP1, hK1, hD1⟩ := hB
        rw [ht] at hP1
        have hK1 := va_K.moved hvm.symm hK1
        obtain ⟨hP, hD⟩ := nv_join (wf := [(h0, .inr (0, [.ref h2, .ref h3, .ref h4, .ref h5, .ref h6, .ref h7, .ref h8, .int x0, .int x1, .int x2, .int x3, .int x4, .int x5, .int x6, .int x7, .int x8, .int x9])), (h6, .inl (y0, 2600, .inl f0)), (h5, .inl (y1, 2600, .inl f1)), (h1, .inr (1, [.ref h9, .ref h10, .ref h11, .ref h12])), (h9, .inl (y2, 32768, .inl u1052_0)), (h12, .inr (9, [.ref h13, .ref h14, .int u1052_1, .int u1052_2, .int u1052_3, .int u1052_4])), (h14, .inl (y3, 3, .inl u1052_5)), (h13, .inl (y4, 3, .inl u1052_6)), (h11, .inr (5, [.int u1052_7, .int u1052_8, .int u1052_9, .int u1052_10, .int u1052_11, .int u1052_12])), (h10, .inr (7, [.int x20, .int u1052_13, .int u1052_14, .int u1052_15, .int u1052_16]))]) hP hD [3, 4, 5, 6, 7, 8, 9] [0, 1, 2] rfl rfl (by decide) (by decide) hk1 hFc hP1 hD1 rfl
        have hK := (hK.sub (tys' := [(y0, .int), (y1, .int)]) [0, 1] rfl).app hK1
        generalize H1 = H at hP hS ⊢
        have hK : va_K (dC, dI) vwCl [(y0, .int), (y1, .int), (y2, .int), (y3, .int), (y4, .int)] s := hK
        obtain ⟨v1053, ev1053⟩ : ∃ y : Int32, y = b988 + Int32.ofInt 1 := ⟨_, rfl⟩
        have iv1053 : iv v1053 1 2600 := iv_eq ev1053 (iv_add j1048 (by decide : iv (Int32.ofInt 1) 1 1) (by decide) (by decide))
        have tv1053 : v1053.toInt = b988.toInt + 1 := iv_addT ev1053 j1048 (by decide) (by decide) (by decide)
        refine lv_iinc (v := v1053) (lv' := [(2, .int v1053), (0, .ref h0), (1, .ref h1)]) hx hb dX0_writeTo_33 hl (k := 0) rfl ev1053.symm (by decide) rfl (fun ls hl => ?_)
        refine lv_goto (tgt := 2) hx hb dX0_writeTo_36 (by decide) ?_
        exact ih v1053 u1052_0 u1052_1 u1052_2 u1052_3 u1052_4 u1052_5 u1052_6 u1052_7 u1052_8 u1052_9 u1052_10 u1052_11 u1052_12 u1052_13 u1052_14 u1052_15 u1052_16 (iv_w iv1053 (by decide) (by decide)) iu1052_4 (by omega) _ _ hK hP hD hS ls hl
  exact lp1034 _ 0 f2 x10 x11 x12 x13 f3 f4 x14 x15 x16 x17 x18 x19 x21 x22 x23 x24 (iv_w (by decide : iv 0 0 0) (by decide) (by decide)) ix13 (Nat.lt_succ_self _) _ _ hK hP hD hS ls hl
