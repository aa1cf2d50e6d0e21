set_option maxHeartbeats 100000000 in
set_option maxRecDepth 100000 in
theorem cX11_fault_1 (l : Launch) (dC : Nat → ClassId) (dI : Nat → Nat → Nat) (h0 h1 h2 h3 h4 h5 h6 h7 h8 h9 h10 h11 h12 : Nat) (sz : Nat) (x0 x1 x2 x3 x4 x5 x6 x7 x8 x9 x10 x11 : Int32) (ix0 : iv x0 0 2600) (ix2 : iv x2 0 2600) (ix3 : iv x3 0 1) (ix9 : iv x9 0 1) : Met l yX11_fault (Cond.code yX11_fault cX11_fault 1 (some .int) :: lw_G) ({ frames := 1, cells := 0, slots := 0, locals := 20 }) (va_Pc [.ref h0] (fun U => U.heap.size = sz ∧ va_P (dC, dI) vwCl [(h0, .inr (11, [.ref h1, .ref h2, .ref h3, .ref h4, .ref h5, .int x0, .int x1])), (h4, .inr (0, [.ref h6, .ref h7, .ref h8, .ref h9, .ref h10, .ref h11, .ref h12, .int x2, .int x3, .int x4, .int x5, .int x6, .int x7, .int x8, .int x9, .int x10, .int x11]))] U.heap ∧ va_K (dC, dI) vwCl [] U ∧ va_D (fun _ => True) [(h0, .inr (11, [.ref h1, .ref h2, .ref h3, .ref h4, .ref h5, .int x0, .int x1])), (h4, .inr (0, [.ref h6, .ref h7, .ref h8, .ref h9, .ref h10, .ref h11, .ref h12, .int x2, .int x3, .int x4, .int x5, .int x6, .int x7, .int x8, .int x9, .int x10, .int x11]))])) (va_Qi (fun (r : Int32) (u : Unit) => True) (fun (u : Unit) (t : State) => va_P (dC, dI) vwCl [(h0, .inr (11, [.ref h1, .ref h2, .ref h3, .ref h4, .ref h5, .int x0, .int x1])), (h4, .inr (0, [.ref h6, .ref h7, .ref h8, .ref h9, .ref h10, .ref h11, .ref h12, .int x2, .int x3, .int x4, .int x5, .int x6, .int x7, .int x8, .int x9, .int x10, .int x11]))] t.heap ∧ va_K (dC, dI) vwCl [] t ∧ va_D (va_A [(h0, .inr (11, [.ref h1, .ref h2, .ref h3, .ref h4, .ref h5, .int x0, .int x1])), (h4, .inr (0, [.ref h6, .ref h7, .ref h8, .ref h9, .ref h10, .ref h11, .ref h12, .int x2, .int x3, .int x4, .int x5, .int x6, .int x7, .int x8, .int x9, .int x10, .int x11]))] sz) [(h0, .inr (11, [.ref h1, .ref h2, .ref h3, .ref h4, .ref h5, .int x0, .int x1])), (h4, .inr (0, [.ref h6, .ref h7, .ref h8, .ref h9, .ref h10, .ref h11, .ref h12, .int x2, .int x3, .int x4, .int x5, .int x6, .int x7, .int x8, .int x9, .int x10, .int x11]))]) (va_A [(h0, .inr (11, [.ref h1, .ref h2, .ref h3, .ref h4, .ref h5, .int x0, .int x1])), (h4, .inr (0, [.ref h6, .ref h7, .ref h8, .ref h9, .ref h10, .ref h11, .ref h12, .int x2, .int x3, .int x4, .int x5, .int x6, .int x7, .int x8, .int x9, .int x10, .int x11]))] sz)) 0 0 (va_A [(h0, .inr (11, [.ref h1, .ref h2, .ref h3, .ref h4, .ref h5, .int x0, .int x1])), (h4, .inr (0, [.ref h6, .ref h7, .ref h8, .ref h9, .ref h10, .ref h11, .ref h12, .int x2, .int x3, .int x4, .int x5, .int x6, .int x7, .int x8, .int x9, .int x10, .int x11]))] sz) := by
  refine Met.ofW (cc := cX11_fault) (maxL := 1) (ret := (some .int)) (by decide) rfl ?_
  intro p e s m args below meth c s₁ B hml hv
  obtain ⟨rfl, hsz, hP, hK, hD0⟩ := hv
  have hx := B.exec
  have hb := B.bytes
  have hr := B.returns
  have hts0 := atoms_spec (ws := Cond.code yX11_fault cX11_fault 1 (some .int) :: lw_G) B.pre
  have hG : ∀ w ∈ lw_G, w.before _ s = true := fun w h => hts0 w (List.mem_cons_of_mem _ h)
  have hown : s.vm.findClass RX11 = some m.cls := findClass_of_methodNamed B.named
  have hlocks := B.notSynchronized
  subst hsz
  have hD := hD0.self (sz := s.heap.size)
  generalize hAe : va_A [(h0, .inr (11, [.ref h1, .ref h2, .ref h3, .ref h4, .ref h5, .int x0, .int x1])), (h4, .inr (0, [.ref h6, .ref h7, .ref h8, .ref h9, .ref h10, .ref h11, .ref h12, .int x2, .int x3, .int x4, .int x5, .int x6, .int x7, .int x8, .int x9, .int x10, .int x11]))] s.heap.size = A at hD ⊢
  have hA : ∀ q : Nat, s.heap.size ≤ q → A q := fun q h => by rw [← hAe]; exact Or.inr h
  have hS : va_S A s.heap s.heap [] := va_S.rf
  have hP : va_P (dC, dI) vwCl [(h0, .inr (11, [.ref h1, .ref h2, .ref h3, .ref h4, .ref h5, .int x0, .int x1])), (h4, .inr (0, [.ref h6, .ref h7, .ref h8, .ref h9, .ref h10, .ref h11, .ref h12, .int x2, .int x3, .int x4, .int x5, .int x6, .int x7, .int x8, .int x9, .int x10, .int x11]))] s.heap := hP
  have hl := lv_entry ([.ref h0]) (n := 1) (Nat.le_of_ble_eq_true rfl)
  rw [lg_entry_eq]
  generalize (lg_sl ([.ref h0]) ++ List.replicate (1 - (lg_sl ([.ref h0])).length) Slot.unset).toArray = ls at hl ⊢
  have hl : lv_has ls 1 [(0, .ref h0)] := hl
  generalize ([.ref h0] : List Value).toArray = ar at hG ⊢
  refine wq (fun Q hQ => ?_)
  refine lv_aload_n hx hb dX11_fault_0 rfl (lv_at hl 0 rfl) ?_
  refine va_get (D := (dC, dI)) (ci := 11) (v := .ref h4) (C := RX11) (T := TX11) (N := 7) hx hb hG inGX11 hown hK hP 0 rfl rfl 3 (by decide) (hG _ wd_398) (fun _ h9 => h9) rfl dX11_fault_1 ?_
  obtain ⟨hPc, hDc, hFc⟩ := nv_sub3 (wc := [(h4, .inr (0, [.ref h6, .ref h7, .ref h8, .ref h9, .ref h10, .ref h11, .ref h12, .int x2, .int x3, .int x4, .int x5, .int x6, .int x7, .int x8, .int x9, .int x10, .int x11]))]) hP hD hS hA [1] (by decide) rfl
  have hKc := hK.sub (tys' := []) [] rfl
  refine va_calli (va_runV (As := []) (rest := []) ⟨hx, hb, hml, hown, hG⟩ (cX0_faultKind_1 l dC dI h4 h6 h7 h8 h9 h10 h11 h12 s.heap.size x2 x3 x4 x5 x6 x7 x8 x9 x10 x11 ix2 ix3 ix9) (cwV 0 hG (gV wd_776 wd_777 wd_778 wd_8 wd_779) rfl rfl rfl (by decide +kernel) ⟨Nat.le_of_ble_eq_true rfl, Nat.le_of_ble_eq_true rfl⟩) ⟨fun a U g mk q => by obtain ⟨q0, q1, qP, qK, qD⟩ := q; exact ⟨q0, q1, qP, va_K.moved (u := U) (U := U.calling g mk a) (Vm.Alike.refl U.vm) qK, qD⟩, va_recv hKc hPc (ci := 0) (q0 := 0) rfl rfl, fun U hU hW => ⟨rfl, by rw [hU], by rw [hU]; exact hPc, va_K.moved hW.alike hKc, hDc.weaken (fun _ _ _ _ => trivial)⟩⟩ rfl rfl hl.1 rfl (lv_room (Nat.le_of_ble_eq_true rfl)) dX11_fault_4 ⟨by decide, by decide⟩) hS (fun q _ h => hFc q h) hFc (fun r1 u2 t H1 locs ht hvm hw hB hz1 hk1 hS => ?_)
  obtain ⟨hP1, hK1, hD1⟩ := hB
  rw [ht] at hP1
  have hK1 := va_K.moved hvm.symm hK1
  obtain ⟨hP, hD⟩ := nv_join (wf := [(h0, .inr (11, [.ref h1, .ref h2, .ref h3, .ref h4, .ref h5, .int x0, .int x1])), (h4, .inr (0, [.ref h6, .ref h7, .ref h8, .ref h9, .ref h10, .ref h11, .ref h12, .int x2, .int x3, .int x4, .int x5, .int x6, .int x7, .int x8, .int x9, .int x10, .int x11]))]) hP hD [1] [0] rfl rfl (by decide) (by decide) hk1 hFc hP1 hD1 rfl
  have hK := (hK.sub (tys' := []) [] rfl).app hK1
  generalize H1 = H at hP hS ⊢
  have hK : va_K (dC, dI) vwCl [] s := hK
  rw [hQ]
  obtain ⟨hP9, hD9⟩ := nv_sub2 (wc := [(h0, .inr (11, [.ref h1, .ref h2, .ref h3, .ref h4, .ref h5, .int x0, .int x1])), (h4, .inr (0, [.ref h6, .ref h7, .ref h8, .ref h9, .ref h10, .ref h11, .ref h12, .int x2, .int x3, .int x4, .int x5, .int x6, .int x7, .int x8, .int x9, .int x10, .int x11]))]) hP hD [0, 1] (by decide) rfl
  have hK9 := hK.sub (tys' := []) [] rfl
  exact W.iret (v := r1) hx hb hr (fun t ht hW => ⟨⟨r1, (), rfl, trivial, by rw [ht]; exact hP9, va_K.moved hW.alike hK9, hD9⟩, hS.F ht⟩) hS.2.2 dX11_fault_7
set_option maxHeartbeats 100000000 in
set_option maxRecDepth 100000 in
theorem cX12_fault_1 (l : Launch) (dC : Nat → ClassId) (dI : Nat → Nat → Nat) (h0 h1 h2 h3 h4 h5 h6 h7 h8 h9 h10 h11 h12 h13 h14 h15 h16 h17 : Nat) (sz : Nat) (x0 x1 x2 x3 x4 x5 x6 x7 x8 x9 x10 x11 x12 x13 x14 x15 x16 x17 x18 x19 x20 x21 x22 x23 x24 x25 x26 x27 x28 x29 x30 x31 x32 x33 x34 x35 x36 x37 x38 x39 x40 x41 x42 x43 x44 x45 x46 x47 x48 x49 x50 x51 x52 x53 : Int32) (z0 : Int64) (ix15 : iv x15 0 1) (ix16 : iv x16 0 40) (ix21 : iv x21 0 65535) (ix22 : iv x22 0 1) (ix23 : iv x23 0 1) (ix24 : iv x24 0 2600) (ix25 : iv x25 0 2600) (ix26 : iv x26 0 2500) (ix27 : iv x27 0 2500) (ix31 : iv x31 0 1048575) (ix32 : iv x32 0 60) (ix33 : iv x33 0 60) (ix34 : iv x34 0 1) (ix35 : iv x35 0 1) (ix36 : iv x36 0 65535) (ix41 : iv x41 0 5200) (ix42 : iv x42 0 70800) (ix46 : iv x46 0 1) (ix47 : iv x47 0 1) (ix49 : iv x49 0 100) (ix53 : iv x53 0 1) : Met l yX12_fault (Cond.code yX12_fault cX12_fault 1 (some .int) :: lw_G) ({ frames := 0, cells := 0, slots := 0, locals := 0 }) (va_Pc [.ref h0] (fun U => U.heap.size = sz ∧ va_P (dC, dI) vwCl [(h0, .inr (12, .int x0 :: .ref h1 :: .ref h2 :: .int x1 :: .int x2 :: .int x3 :: .int x4 :: .int x5 :: .int x6 :: .int x7 :: .int x8 :: .int x9 :: [.int x10, .int x11, .int x12, .int x13, .int x14, .int x15, .ref h3, .ref h4, .ref h5, .ref h6, .int x16, .int x17, .int x18, .int x19, .int x20, .int x21, .int x22, .int x23, .ref h7, .int x24, .int x25, .int x26, .int x27, .ref h8, .ref h9, .int x28, .int x29, .long z0, .int x30, .int x31, .ref h10, .ref h11, .ref h12, .ref h13, .ref h14, .int x32, .int x33, .int x34, .int x35, .int x36, .int x37, .int x38, .int x39, .int x40, .ref h15, .ref h16, .int x41, .int x42, .int x43, .int x44, .int x45, .int x46, .int x47, .int x48, .ref h17, .int x49, .int x50, .int x51, .int x52, .int x53]))] U.heap ∧ va_K (dC, dI) vwCl [] U ∧ va_D (fun _ => True) [(h0, .inr (12, .int x0 :: .ref h1 :: .ref h2 :: .int x1 :: .int x2 :: .int x3 :: .int x4 :: .int x5 :: .int x6 :: .int x7 :: .int x8 :: .int x9 :: [.int x10, .int x11, .int x12, .int x13, .int x14, .int x15, .ref h3, .ref h4, .ref h5, .ref h6, .int x16, .int x17, .int x18, .int x19, .int x20, .int x21, .int x22, .int x23, .ref h7, .int x24, .int x25, .int x26, .int x27, .ref h8, .ref h9, .int x28, .int x29, .long z0, .int x30, .int x31, .ref h10, .ref h11, .ref h12, .ref h13, .ref h14, .int x32, .int x33, .int x34, .int x35, .int x36, .int x37, .int x38, .int x39, .int x40, .ref h15, .ref h16, .int x41, .int x42, .int x43, .int x44, .int x45, .int x46, .int x47, .int x48, .ref h17, .int x49, .int x50, .int x51, .int x52, .int x53]))])) (va_Qi (fun (r : Int32) (u : Unit) => True) (fun (u : Unit) (t : State) => va_P (dC, dI) vwCl [(h0, .inr (12, .int 0 :: .ref h1 :: .ref h2 :: .int x1 :: .int x2 :: .int x3 :: .int x4 :: .int x5 :: .int x6 :: .int x7 :: .int x8 :: .int x9 :: [.int x10, .int x11, .int x12, .int x13, .int x14, .int x15, .ref h3, .ref h4, .ref h5, .ref h6, .int x16, .int x17, .int x18, .int x19, .int x20, .int x21, .int x22, .int x23, .ref h7, .int x24, .int x25, .int x26, .int x27, .ref h8, .ref h9, .int x28, .int x29, .long z0, .int x30, .int x31, .ref h10, .ref h11, .ref h12, .ref h13, .ref h14, .int x32, .int x33, .int x34, .int x35, .int x36, .int x37, .int x38, .int x39, .int x40, .ref h15, .ref h16, .int x41, .int x42, .int x43, .int x44, .int x45, .int x46, .int x47, .int x48, .ref h17, .int x49, .int x50, .int x51, .int x52, .int x53]))] t.heap ∧ va_K (dC, dI) vwCl [] t ∧ va_D (va_A [(h0, .inr (12, .int x0 :: .ref h1 :: .ref h2 :: .int x1 :: .int x2 :: .int x3 :: .int x4 :: .int x5 :: .int x6 :: .int x7 :: .int x8 :: .int x9 :: [.int x10, .int x11, .int x12, .int x13, .int x14, .int x15, .ref h3, .ref h4, .ref h5, .ref h6, .int x16, .int x17, .int x18, .int x19, .int x20, .int x21, .int x22, .int x23, .ref h7, .int x24, .int x25, .int x26, .int x27, .ref h8, .ref h9, .int x28, .int x29, .long z0, .int x30, .int x31, .ref h10, .ref h11, .ref h12, .ref h13, .ref h14, .int x32, .int x33, .int x34, .int x35, .int x36, .int x37, .int x38, .int x39, .int x40, .ref h15, .ref h16, .int x41, .int x42, .int x43, .int x44, .int x45, .int x46, .int x47, .int x48, .ref h17, .int x49, .int x50, .int x51, .int x52, .int x53]))] sz) [(h0, .inr (12, .int 0 :: .ref h1 :: .ref h2 :: .int x1 :: .int x2 :: .int x3 :: .int x4 :: .int x5 :: .int x6 :: .int x7 :: .int x8 :: .int x9 :: [.int x10, .int x11, .int x12, .int x13, .int x14, .int x15, .ref h3, .ref h4, .ref h5, .ref h6, .int x16, .int x17, .int x18, .int x19, .int x20, .int x21, .int x22, .int x23, .ref h7, .int x24, .int x25, .int x26, .int x27, .ref h8, .ref h9, .int x28, .int x29, .long z0, .int x30, .int x31, .ref h10, .ref h11, .ref h12, .ref h13, .ref h14, .int x32, .int x33, .int x34, .int x35, .int x36, .int x37, .int x38, .int x39, .int x40, .ref h15, .ref h16, .int x41, .int x42, .int x43, .int x44, .int x45, .int x46, .int x47, .int x48, .ref h17, .int x49, .int x50, .int x51, .int x52, .int x53]))]) (va_A [(h0, .inr (12, .int x0 :: .ref h1 :: .ref h2 :: .int x1 :: .int x2 :: .int x3 :: .int x4 :: .int x5 :: .int x6 :: .int x7 :: .int x8 :: .int x9 :: [.int x10, .int x11, .int x12, .int x13, .int x14, .int x15, .ref h3, .ref h4, .ref h5, .ref h6, .int x16, .int x17, .int x18, .int x19, .int x20, .int x21, .int x22, .int x23, .ref h7, .int x24, .int x25, .int x26, .int x27, .ref h8, .ref h9, .int x28, .int x29, .long z0, .int x30, .int x31, .ref h10, .ref h11, .ref h12, .ref h13, .ref h14, .int x32, .int x33, .int x34, .int x35, .int x36, .int x37, .int x38, .int x39, .int x40, .ref h15, .ref h16, .int x41, .int x42, .int x43, .int x44, .int x45, .int x46, .int x47, .int x48, .ref h17, .int x49, .int x50, .int x51, .int x52, .int x53]))] sz)) 0 0 (va_A [(h0, .inr (12, .int x0 :: .ref h1 :: .ref h2 :: .int x1 :: .int x2 :: .int x3 :: .int x4 :: .int x5 :: .int x6 :: .int x7 :: .int x8 :: .int x9 :: [.int x10, .int x11, .int x12, .int x13, .int x14, .int x15, .ref h3, .ref h4, .ref h5, .ref h6, .int x16, .int x17, .int x18, .int x19, .int x20, .int x21, .int x22, .int x23, .ref h7, .int x24, .int x25, .int x26, .int x27, .ref h8, .ref h9, .int x28, .int x29, .long z0, .int x30, .int x31, .ref h10, .ref h11, .ref h12, .ref h13, .ref h14, .int x32, .int x33, .int x34, .int x35, .int x36, .int x37, .int x38, .int x39, .int x40, .ref h15, .ref h16, .int x41, .int x42, .int x43, .int x44, .int x45, .int x46, .int x47, .int x48, .ref h17, .int x49, .int x50, .int x51, .int x52, .int x53]))] sz) := by
  refine Met.ofW (cc := cX12_fault) (maxL := 1) (ret := (some .int)) (by decide) rfl ?_
  intro p e s m args below meth c s₁ B hml hv
  obtain ⟨rfl, hsz, hP, hK, hD0⟩ := hv
  have hx := B.exec
  have hb := B.bytes
  have hr := B.returns
  have hts0 := atoms_spec (ws := Cond.code yX12_fault cX12_fault 1 (some .int) :: lw_G) B.pre
  have hG : ∀ w ∈ lw_G, w.before _ s = true := fun w h => hts0 w (List.mem_cons_of_mem _ h)
  have hown : s.vm.findClass RX12 = some m.cls := findClass_of_methodNamed B.named
  have hlocks := B.notSynchronized
  subst hsz
  have hD := hD0.self (sz := s.heap.size)
  generalize hAe : va_A [(h0, .inr (12, .int x0 :: .ref h1 :: .ref h2 :: .int x1 :: .int x2 :: .int x3 :: .int x4 :: .int x5 :: .int x6 :: .int x7 :: .int x8 :: .int x9 :: [.int x10, .int x11, .int x12, .int x13, .int x14, .int x15, .ref h3, .ref h4, .ref h5, .ref h6, .int x16, .int x17, .int x18, .int x19, .int x20, .int x21, .int x22, .int x23, .ref h7, .int x24, .int x25, .int x26, .int x27, .ref h8, .ref h9, .int x28, .int x29, .long z0, .int x30, .int x31, .ref h10, .ref h11, .ref h12, .ref h13, .ref h14, .int x32, .int x33, .int x34, .int x35, .int x36, .int x37, .int x38, .int x39, .int x40, .ref h15, .ref h16, .int x41, .int x42, .int x43, .int x44, .int x45, .int x46, .int x47, .int x48, .ref h17, .int x49, .int x50, .int x51, .int x52, .int x53]))] s.heap.size = A at hD ⊢
  have hA : ∀ q : Nat, s.heap.size ≤ q → A q := fun q h => by rw [← hAe]; exact Or.inr h
  have hS : va_S A s.heap s.heap [] := va_S.rf
  have hP : va_P (dC, dI) vwCl [(h0, .inr (12, .int x0 :: .ref h1 :: .ref h2 :: .int x1 :: .int x2 :: .int x3 :: .int x4 :: .int x5 :: .int x6 :: .int x7 :: .int x8 :: .int x9 :: [.int x10, .int x11, .int x12, .int x13, .int x14, .int x15, .ref h3, .ref h4, .ref h5, .ref h6, .int x16, .int x17, .int x18, .int x19, .int x20, .int x21, .int x22, .int x23, .ref h7, .int x24, .int x25, .int x26, .int x27, .ref h8, .ref h9, .int x28, .int x29, .long z0, .int x30, .int x31, .ref h10, .ref h11, .ref h12, .ref h13, .ref h14, .int x32, .int x33, .int x34, .int x35, .int x36, .int x37, .int x38, .int x39, .int x40, .ref h15, .ref h16, .int x41, .int x42, .int x43, .int x44, .int x45, .int x46, .int x47, .int x48, .ref h17, .int x49, .int x50, .int x51, .int x52, .int x53]))] s.heap := hP
  have hl := lv_entry ([.ref h0]) (n := 1) (Nat.le_of_ble_eq_true rfl)
  rw [lg_entry_eq]
  generalize (lg_sl ([.ref h0]) ++ List.replicate (1 - (lg_sl ([.ref h0])).length) Slot.unset).toArray = ls at hl ⊢
  have hl : lv_has ls 1 [(0, .ref h0)] := hl
  generalize ([.ref h0] : List Value).toArray = ar at hG ⊢
  refine wq (fun Q hQ => ?_)
  refine lv_aload_n hx hb dX12_fault_0 rfl (lv_at hl 0 rfl) ?_
  refine lv_iconst (v := 0) hx hb dX12_fault_1 (by decide) ?_
  refine va_put (D := (dC, dI)) (ci := 12) (v := .int 0) (ty := .int) (C := RX12) (T := TX12) (N := 72) hx hb hG inGX12 tyX12 tyX12_ok nmX12 hown hK hP hD hS 0 rfl rfl 0 (by decide) (hG _ wd_1307) (fun _ h9 => h9) rfl (by decide +kernel) rfl rfl (Nat.le_of_ble_eq_true rfl) dX12_fault_2 (fun H locs hP hD hS => ?_)
  obtain ⟨hP, hD⟩ := nv_eq (ws' := [(h0, .inr (12, .int 0 :: .ref h1 :: .ref h2 :: .int x1 :: .int x2 :: .int x3 :: .int x4 :: .int x5 :: .int x6 :: .int x7 :: .int x8 :: .int x9 :: [.int x10, .int x11, .int x12, .int x13, .int x14, .int x15, .ref h3, .ref h4, .ref h5, .ref h6, .int x16, .int x17, .int x18, .int x19, .int x20, .int x21, .int x22, .int x23, .ref h7, .int x24, .int x25, .int x26, .int x27, .ref h8, .ref h9, .int x28, .int x29, .long z0, .int x30, .int x31, .ref h10, .ref h11, .ref h12, .ref h13, .ref h14, .int x32, .int x33, .int x34, .int x35, .int x36, .int x37, .int x38, .int x39, .int x40, .ref h15, .ref h16, .int x41, .int x42, .int x43, .int x44, .int x45, .int x46, .int x47, .int x48, .ref h17, .int x49, .int x50, .int x51, .int x52, .int x53]))]) hP hD rfl
  refine lv_aload_n hx hb dX12_fault_5 rfl (lv_at hl 0 rfl) ?_
  refine va_get (D := (dC, dI)) (ci := 12) (v := .int x28) (C := RX12) (T := TX12) (N := 72) hx hb hG inGX12 hown hK hP 0 rfl rfl 37 (by decide) (hG _ wd_1344) (fun _ h9 => h9) rfl dX12_fault_6 ?_
  rw [hQ]
  obtain ⟨hP9, hD9⟩ := nv_sub2 (wc := [(h0, .inr (12, .int 0 :: .ref h1 :: .ref h2 :: .int x1 :: .int x2 :: .int x3 :: .int x4 :: .int x5 :: .int x6 :: .int x7 :: .int x8 :: .int x9 :: [.int x10, .int x11, .int x12, .int x13, .int x14, .int x15, .ref h3, .ref h4, .ref h5, .ref h6, .int x16, .int x17, .int x18, .int x19, .int x20, .int x21, .int x22, .int x23, .ref h7, .int x24, .int x25, .int x26, .int x27, .ref h8, .ref h9, .int x28, .int x29, .long z0, .int x30, .int x31, .ref h10, .ref h11, .ref h12, .ref h13, .ref h14, .int x32, .int x33, .int x34, .int x35, .int x36, .int x37, .int x38, .int x39, .int x40, .ref h15, .ref h16, .int x41, .int x42, .int x43, .int x44, .int x45, .int x46, .int x47, .int x48, .ref h17, .int x49, .int x50, .int x51, .int x52, .int x53]))]) hP hD [0] (by decide) rfl
  have hK9 := hK.sub (tys' := []) [] rfl
  exact W.iret (v := x28) hx hb hr (fun t ht hW => ⟨⟨x28, (), rfl, trivial, by rw [ht]; exact hP9, va_K.moved hW.alike hK9, hD9⟩, hS.F ht⟩) hS.2.2 dX12_fault_9
set_option maxHeartbeats 100000000 in
set_option maxRecDepth 100000 in
theorem cX4_valueOfLine_1 (l : Launch) (dC : Nat → ClassId) (dI : Nat → Nat → Nat) (h0 h1 h2 h3 : Nat) (y0 y1 : ClassId) (sz : Nat) (x0 x1 : Int32) (f0 f1 : Nat → Int32) (ix1 : iv x1 0 60) : Met l yX4_valueOfLine (Cond.code yX4_valueOfLine cX4_valueOfLine 3 (some .int) :: lw_G) ({ frames := 0, cells := 0, slots := 0, locals := 0 }) (va_Pc [.ref h0, .int x0] (fun U => U.heap.size = sz ∧ va_P (dC, dI) vwCl [(h0, .inr (4, [.ref h1, .ref h2, .ref h3, .int x1])), (h3, .inl (y0, 60, .inl f0)), (h2, .inl (y1, 60, .inl f1))] U.heap ∧ va_K (dC, dI) vwCl [(y0, .int), (y1, .int)] U ∧ va_D (fun _ => True) [(h0, .inr (4, [.ref h1, .ref h2, .ref h3, .int x1])), (h3, .inl (y0, 60, .inl f0)), (h2, .inl (y1, 60, .inl f1))])) (va_Qi (fun (r : Int32) (u : Unit) => True) (fun (u : Unit) (t : State) => va_P (dC, dI) vwCl [(h0, .inr (4, [.ref h1, .ref h2, .ref h3, .int x1])), (h3, .inl (y0, 60, .inl f0)), (h2, .inl (y1, 60, .inl f1))] t.heap ∧ va_K (dC, dI) vwCl [(y0, .int), (y1, .int)] t ∧ va_D (va_A [(h0, .inr (4, [.ref h1, .ref h2, .ref h3, .int x1])), (h3, .inl (y0, 60, .inl f0)), (h2, .inl (y1, 60, .inl f1))] sz) [(h0, .inr (4, [.ref h1, .ref h2, .ref h3, .int x1])), (h3, .inl (y0, 60, .inl f0)), (h2, .inl (y1, 60, .inl f1))]) (va_A [(h0, .inr (4, [.ref h1, .ref h2, .ref h3, .int x1])), (h3, .inl (y0, 60, .inl f0)), (h2, .inl (y1, 60, .inl f1))] sz)) 0 0 (va_A [(h0, .inr (4, [.ref h1, .ref h2, .ref h3, .int x1])), (h3, .inl (y0, 60, .inl f0)), (h2, .inl (y1, 60, .inl f1))] sz) := by
  refine Met.ofW (cc := cX4_valueOfLine) (maxL := 3) (ret := (some .int)) (by decide) rfl ?_
  intro p e s m args below meth c s₁ B hml hv
  obtain ⟨rfl, hsz, hP, hK, hD0⟩ := hv
  have hx := B.exec
  have hb := B.bytes
  have hr := B.returns
  have hts0 := atoms_spec (ws := Cond.code yX4_valueOfLine cX4_valueOfLine 3 (some .int) :: lw_G) B.pre
  have hG : ∀ w ∈ lw_G, w.before _ s = true := fun w h => hts0 w (List.mem_cons_of_mem _ h)
  have hown : s.vm.findClass RX4 = some m.cls := findClass_of_methodNamed B.named
  have hlocks := B.notSynchronized
  subst hsz
  have hD := hD0.self (sz := s.heap.size)
  generalize hAe : va_A [(h0, .inr (4, [.ref h1, .ref h2, .ref h3, .int x1])), (h3, .inl (y0, 60, .inl f0)), (h2, .inl (y1, 60, .inl f1))] s.heap.size = A at hD ⊢
  have hA : ∀ q : Nat, s.heap.size ≤ q → A q := fun q h => by rw [← hAe]; exact Or.inr h
  have hS : va_S A s.heap s.heap [] := va_S.rf
  have hP : va_P (dC, dI) vwCl [(h0, .inr (4, [.ref h1, .ref h2, .ref h3, .int x1])), (h3, .inl (y0, 60, .inl f0)), (h2, .inl (y1, 60, .inl f1))] s.heap := hP
  have hl := lv_entry ([.ref h0, .int x0]) (n := 3) (Nat.le_of_ble_eq_true rfl)
  rw [lg_entry_eq]
  generalize (lg_sl ([.ref h0, .int x0]) ++ List.replicate (3 - (lg_sl ([.ref h0, .int x0])).length) Slot.unset).toArray = ls at hl ⊢
  have hl : lv_has ls 3 [(0, .ref h0), (1, .int x0)] := hl
  generalize ([.ref h0, .int x0] : List Value).toArray = ar at hG ⊢
  refine wq (fun Q hQ => ?_)
  refine lv_iconst (v := 0) hx hb dX4_valueOfLine_0 (by decide) ?_
  refine lv_istore_n (lv' := [(2, .int 0), (0, .ref h0), (1, .int x0)]) hx hb dX4_valueOfLine_1 rfl hl (by decide) rfl (fun ls hl => ?_)
  refine jcut (a := ∀ (n : Nat) (b177 : Int32) (ib177 : iv b177 0 60) (hm : (60 - b177.toInt).toNat < n) (H : Heap) (locs : List Loc) (hK : va_K (dC, dI) vwCl [(y0, .int), (y1, .int)] s) (hP : va_P (dC, dI) vwCl [(h0, .inr (4, [.ref h1, .ref h2, .ref h3, .int x1])), (h3, .inl (y0, 60, .inl f0)), (h2, .inl (y1, 60, .inl f1))] H) (hD : va_D A [(h0, .inr (4, [.ref h1, .ref h2, .ref h3, .int x1])), (h3, .inl (y0, 60, .inl f0)), (h2, .inl (y1, 60, .inl f1))]) (hS : va_S A s.heap H locs) (ls : Array Slot) (hl : lv_has ls 3 [(2, .int b177), (0, .ref h0), (1, .int x0)]), W p l e (headSpec (Cond.code yX4_valueOfLine cX4_valueOfLine 3 (some .int) :: lw_G) ({ frames := 0, cells := 0, slots := 0, locals := 0 })).room s m ar below meth c H locs 0 0 Q (F0 m 2 ls [])) ?_ (fun lp188 => ?_)
  · skip
    intro n
    induction n with
    | zero => intro b177 ib177 hm H locs hK hP hD hS ls hl; exact absurd hm (Nat.not_lt_zero _)
    | succ n ih =>
      intro b177 ib177 hm H locs hK hP hD hS ls hl
      refine lv_iload_n hx hb dX4_valueOfLine_2 rfl (lv_at hl 0 rfl) ?_
      refine lv_aload_n hx hb dX4_valueOfLine_3 rfl (lv_at hl 1 rfl) ?_
      refine va_get (D := (dC, dI)) (ci := 4) (v := .int x1) (C := RX4) (T := TX4) (N := 4) hx hb hG inGX4 hown hK hP 0 rfl rfl 3 (by decide) (hG _ wd_211) (fun _ h9 => h9) rfl dX4_valueOfLine_4 ?_
      refine lv_icmp_ge (tgt := 39) hx hb dX4_valueOfLine_7 (by decide) (fun c189 => ?_) (fun c189 => ?_)
      · skip
        have rl190 : x1.toInt ≤ b177.toInt := Int32.le_iff_toInt_le.mp c189
        refine lv_iconst (v := (-1)) hx hb dX4_valueOfLine_39 (by decide) ?_
        rw [hQ]
        obtain ⟨hP9, hD9⟩ := nv_sub2 (wc := [(h0, .inr (4, [.ref h1, .ref h2, .ref h3, .int x1])), (h3, .inl (y0, 60, .inl f0)), (h2, .inl (y1, 60, .inl f1))]) hP hD [0, 1, 2] (by decide) rfl
        have hK9 := hK.sub (tys' := [(y0, .int), (y1, .int)]) [0, 1] rfl
        exact W.iret (v := (-1)) hx hb hr (fun t ht hW => ⟨⟨(-1), (), rfl, trivial, by rw [ht]; exact hP9, va_K.moved hW.alike hK9, hD9⟩, hS.F ht⟩) hS.2.2 dX4_valueOfLine_40
      · skip
        have rl191 : b177.toInt < x1.toInt := iv_nle2 c189
        have j192 : iv x1 1 60 := iv_nleL ix1 ib177 c189 (by decide)
        have j193 : iv b177 0 59 := iv_nleR ix1 ib177 c189 (by decide)
        refine lv_iload_n hx hb dX4_valueOfLine_10 rfl (lv_at hl 0 rfl) ?_
        refine lv_bipush (v := 60) hx hb dX4_valueOfLine_11 (by decide) ?_
        refine lv_icmp_ge (tgt := 39) hx hb dX4_valueOfLine_13 (by decide) (fun c => absurd c (iv_nle (by decide : iv 60 60 60) j193 (by decide))) (fun _ => ?_)
        refine lv_aload_n hx hb dX4_valueOfLine_16 rfl (lv_at hl 1 rfl) ?_
        refine va_get (D := (dC, dI)) (ci := 4) (v := .ref h3) (C := RX4) (T := TX4) (N := 4) hx hb hG inGX4 hown hK hP 0 rfl rfl 2 (by decide) (hG _ wd_210) (fun _ h9 => h9) rfl dX4_valueOfLine_17 ?_
        refine lv_iload_n hx hb dX4_valueOfLine_20 rfl (lv_at hl 0 rfl) ?_
        refine va_iald hx hb hK hP 1 0 rfl rfl (iv_in j193 (by decide) (by decide) : vp_in b177 60) dX4_valueOfLine_21 ?_
        refine lv_topi (fun v194 ev194 => ?_)
        refine lv_iload_n hx hb dX4_valueOfLine_22 rfl (lv_at hl 2 rfl) ?_
        refine lv_icmp_ne (tgt := 33) hx hb dX4_valueOfLine_23 (by decide) (fun c195 => ?_) (fun c195 => ?_)
        · skip
          obtain ⟨v196, ev196⟩ : ∃ y : Int32, y = b177 + Int32.ofInt 1 := ⟨_, rfl⟩
          have iv196 : iv v196 1 60 := iv_eq ev196 (iv_add j193 (by decide : iv (Int32.ofInt 1) 1 1) (by decide) (by decide))
          have tv196 : v196.toInt = b177.toInt + 1 := iv_addT ev196 j193 (by decide) (by decide) (by decide)
          refine lv_iinc (v := v196) (lv' := [(2, .int v196), (0, .ref h0), (1, .int x0)]) hx hb dX4_valueOfLine_33 hl (k := 0) rfl ev196.symm (by decide) rfl (fun ls hl => ?_)
          refine lv_goto (tgt := 2) hx hb dX4_valueOfLine_36 (by decide) ?_
          exact ih v196 (iv_w iv196 (by decide) (by decide)) (by omega) _ _ hK hP hD hS ls hl
        · skip
          refine lv_aload_n hx hb dX4_valueOfLine_26 rfl (lv_at hl 1 rfl) ?_
          refine va_get (D := (dC, dI)) (ci := 4) (v := .ref h2) (C := RX4) (T := TX4) (N := 4) hx hb hG inGX4 hown hK hP 0 rfl rfl 1 (by decide) (hG _ wd_209) (fun _ h9 => h9) rfl dX4_valueOfLine_27 ?_
          refine lv_iload_n hx hb dX4_valueOfLine_30 rfl (lv_at hl 0 rfl) ?_
          refine va_iald hx hb hK hP 2 1 rfl rfl (iv_in j193 (by decide) (by decide) : vp_in b177 60) dX4_valueOfLine_31 ?_
          refine lv_topi (fun v197 ev197 => ?_)
          rw [hQ]
          obtain ⟨hP9, hD9⟩ := nv_sub2 (wc := [(h0, .inr (4, [.ref h1, .ref h2, .ref h3, .int x1])), (h3, .inl (y0, 60, .inl f0)), (h2, .inl (y1, 60, .inl f1))]) hP hD [0, 1, 2] (by decide) rfl
          have hK9 := hK.sub (tys' := [(y0, .int), (y1, .int)]) [0, 1] rfl
          exact W.iret (v := v197) hx hb hr (fun t ht hW => ⟨⟨v197, (), rfl, trivial, by rw [ht]; exact hP9, va_K.moved hW.alike hK9, hD9⟩, hS.F ht⟩) hS.2.2 dX4_valueOfLine_32
  exact lp188 _ 0 (iv_w (by decide : iv 0 0 0) (by decide) (by decide)) (Nat.lt_succ_self _) _ _ hK hP hD hS ls hl
set_option maxHeartbeats 100000000 in
set_option maxRecDepth 100000 in
theorem cX0_labelOfLine_1 (l : Launch) (dC : Nat → ClassId) (dI : Nat → Nat → Nat) (h0 h1 h2 h3 h4 h5 h6 h7 h8 h9 h10 : Nat) (y0 y1 : ClassId) (sz : Nat) (x0 x1 x2 x3 x4 x5 x6 x7 x8 x9 x10 x11 : Int32) (f0 f1 : Nat → Int32) (ix1 : iv x1 0 2600) (ix2 : iv x2 0 1) (ix8 : iv x8 0 1) (ix11 : iv x11 0 60) : Met l yX0_labelOfLine (Cond.code yX0_labelOfLine cX0_labelOfLine 2 (some .int) :: lw_G) ({ frames := 1, cells := 0, slots := 0, locals := 22 }) (va_Pc [.ref h0, .int x0] (fun U => U.heap.size = sz ∧ va_P (dC, dI) vwCl [(h0, .inr (0, [.ref h1, .ref h2, .ref h3, .ref h4, .ref h5, .ref h6, .ref h7, .int x1, .int x2, .int x3, .int x4, .int x5, .int x6, .int x7, .int x8, .int x9, .int x10])), (h7, .inr (4, [.ref h8, .ref h9, .ref h10, .int x11])), (h10, .inl (y0, 60, .inl f0)), (h9, .inl (y1, 60, .inl f1))] U.heap ∧ va_K (dC, dI) vwCl [(y0, .int), (y1, .int)] U ∧ va_D (fun _ => True) [(h0, .inr (0, [.ref h1, .ref h2, .ref h3, .ref h4, .ref h5, .ref h6, .ref h7, .int x1, .int x2, .int x3, .int x4, .int x5, .int x6, .int x7, .int x8, .int x9, .int x10])), (h7, .inr (4, [.ref h8, .ref h9, .ref h10, .int x11])), (h10, .inl (y0, 60, .inl f0)), (h9, .inl (y1, 60, .inl f1))])) (va_Qi (fun (r : Int32) (u : Unit) => True) (fun (u : Unit) (t : State) => va_P (dC, dI) vwCl [(h0, .inr (0, [.ref h1, .ref h2, .ref h3, .ref h4, .ref h5, .ref h6, .ref h7, .int x1, .int x2, .int x3, .int x4, .int x5, .int x6, .int x7, .int x8, .int x9, .int x10])), (h7, .inr (4, [.ref h8, .ref h9, .ref h10, .int x11])), (h10, .inl (y0, 60, .inl f0)), (h9, .inl (y1, 60, .inl f1))] t.heap ∧ va_K (dC, dI) vwCl [(y0, .int), (y1, .int)] t ∧ va_D (va_A [(h0, .inr (0, [.ref h1, .ref h2, .ref h3, .ref h4, .ref h5, .ref h6, .ref h7, .int x1, .int x2, .int x3, .int x4, .int x5, .int x6, .int x7, .int x8, .int x9, .int x10])), (h7, .inr (4, [.ref h8, .ref h9, .ref h10, .int x11])), (h10, .inl (y0, 60, .inl f0)), (h9, .inl (y1, 60, .inl f1))] sz) [(h0, .inr (0, [.ref h1, .ref h2, .ref h3, .ref h4, .ref h5, .ref h6, .ref h7, .int x1, .int x2, .int x3, .int x4, .int x5, .int x6, .int x7, .int x8, .int x9, .int x10])), (h7, .inr (4, [.ref h8, .ref h9, .ref h10, .int x11])), (h10, .inl (y0, 60, .inl f0)), (h9, .inl (y1, 60, .inl f1))]) (va_A [(h0, .inr (0, [.ref h1, .ref h2, .ref h3, .ref h4, .ref h5, .ref h6, .ref h7, .int x1, .int x2, .int x3, .int x4, .int x5, .int x6, .int x7, .int x8, .int x9, .int x10])), (h7, .inr (4, [.ref h8, .ref h9, .ref h10, .int x11])), (h10, .inl (y0, 60, .inl f0)), (h9, .inl (y1, 60, .inl f1))] sz)) 0 0 (va_A [(h0, .inr (0, [.ref h1, .ref h2, .ref h3, .ref h4, .ref h5, .ref h6, .ref h7, .int x1, .int x2, .int x3, .int x4, .int x5, .int x6, .int x7, .int x8, .int x9, .int x10])), (h7, .inr (4, [.ref h8, .ref h9, .ref h10, .int x11])), (h10, .inl (y0, 60, .inl f0)), (h9, .inl (y1, 60, .inl f1))] sz) := by
  refine Met.ofW (cc := cX0_labelOfLine) (maxL := 2) (ret := (some .int)) (by decide) rfl ?_
  intro p e s m args below meth c s₁ B hml hv
  obtain ⟨rfl, hsz, hP, hK, hD0⟩ := hv
  have hx := B.exec
  have hb := B.bytes
  have hr := B.returns
  have hts0 := atoms_spec (ws := Cond.code yX0_labelOfLine cX0_labelOfLine 2 (some .int) :: lw_G) B.pre
  have hG : ∀ w ∈ lw_G, w.before _ s = true := fun w h => hts0 w (List.mem_cons_of_mem _ h)
  have hown : s.vm.findClass RX0 = some m.cls := findClass_of_methodNamed B.named
  have hlocks := B.notSynchronized
  subst hsz
  have hD := hD0.self (sz := s.heap.size)
  generalize hAe : va_A [(h0, .inr (0, [.ref h1, .ref h2, .ref h3, .ref h4, .ref h5, .ref h6, .ref h7, .int x1, .int x2, .int x3, .int x4, .int x5, .int x6, .int x7, .int x8, .int x9, .int x10])), (h7, .inr (4, [.ref h8, .ref h9, .ref h10, .int x11])), (h10, .inl (y0, 60, .inl f0)), (h9, .inl (y1, 60, .inl f1))] s.heap.size = A at hD ⊢
  have hA : ∀ q : Nat, s.heap.size ≤ q → A q := fun q h => by rw [← hAe]; exact Or.inr h
  have hS : va_S A s.heap s.heap [] := va_S.rf
  have hP : va_P (dC, dI) vwCl [(h0, .inr (0, [.ref h1, .ref h2, .ref h3, .ref h4, .ref h5, .ref h6, .ref h7, .int x1, .int x2, .int x3, .int x4, .int x5, .int x6, .int x7, .int x8, .int x9, .int x10])), (h7, .inr (4, [.ref h8, .ref h9, .ref h10, .int x11])), (h10, .inl (y0, 60, .inl f0)), (h9, .inl (y1, 60, .inl f1))] s.heap := hP
  have hl := lv_entry ([.ref h0, .int x0]) (n := 2) (Nat.le_of_ble_eq_true rfl)
  rw [lg_entry_eq]
  generalize (lg_sl ([.ref h0, .int x0]) ++ List.replicate (2 - (lg_sl ([.ref h0, .int x0])).length) Slot.unset).toArray = ls at hl ⊢
  have hl : lv_has ls 2 [(0, .ref h0), (1, .int x0)] := hl
  generalize ([.ref h0, .int x0] : List Value).toArray = ar at hG ⊢
  refine wq (fun Q hQ => ?_)
  refine lv_aload_n hx hb dX0_labelOfLine_0 rfl (lv_at hl 0 rfl) ?_
  refine va_get (D := (dC, dI)) (ci := 0) (v := .ref h7) (C := RX0) (T := TX0) (N := 17) hx hb hG inGX0 hown hK hP 0 rfl rfl 6 (by decide) (hG _ wd_327) (fun _ h9 => h9) rfl dX0_labelOfLine_1 ?_
  refine lv_iload_n hx hb dX0_labelOfLine_4 rfl (lv_at hl 1 rfl) ?_
  obtain ⟨hPc, hDc, hFc⟩ := nv_sub3 (wc := [(h7, .inr (4, [.ref h8, .ref h9, .ref h10, .int x11])), (h10, .inl (y0, 60, .inl f0)), (h9, .inl (y1, 60, .inl f1))]) hP hD hS hA [1, 2, 3] (by decide) rfl
  have hKc := hK.sub (tys' := [(y0, .int), (y1, .int)]) [0, 1] rfl
  refine va_calli (va_runV (As := [.int x0]) (rest := []) ⟨hx, hb, hml, hown, hG⟩ (cX4_valueOfLine_1 l dC dI h7 h8 h9 h10 y0 y1 s.heap.size x0 x11 f0 f1 ix11) (cwV 1 hG (gV wd_788 wd_789 wd_790 wd_10 wd_791) rfl rfl rfl (by decide +kernel) ⟨Nat.le_of_ble_eq_true rfl, Nat.le_of_ble_eq_true rfl⟩) ⟨fun a U g mk q => by obtain ⟨q0, q1, qP, qK, qD⟩ := q; exact ⟨q0, q1, qP, va_K.moved (u := U) (U := U.calling g mk a) (Vm.Alike.refl U.vm) qK, qD⟩, va_recv hKc hPc (ci := 4) (q0 := 0) rfl rfl, fun U hU hW => ⟨rfl, by rw [hU], by rw [hU]; exact hPc, va_K.moved hW.alike hKc, hDc.weaken (fun _ _ _ _ => trivial)⟩⟩ rfl rfl hl.1 rfl (lv_room (Nat.le_of_ble_eq_true rfl)) dX0_labelOfLine_5 ⟨by decide, by decide⟩) hS (fun q _ h => hFc q h) hFc (fun r1 u2 t H1 locs ht hvm hw hB hz1 hk1 hS => ?_)
  obtain ⟨hP1, hK1, hD1⟩ := hB
  rw [ht] at hP1
  have hK1 := va_K.moved hvm.symm hK1
  obtain ⟨hP, hD⟩ := nv_join (wf := [(h0, .inr (0, [.ref h1, .ref h2, .ref h3, .ref h4, .ref h5, .ref h6, .ref h7, .int x1, .int x2, .int x3, .int x4, .int x5, .int x6, .int x7, .int x8, .int x9, .int x10])), (h7, .inr (4, [.ref h8, .ref h9, .ref h10, .int x11])), (h10, .inl (y0, 60, .inl f0)), (h9, .inl (y1, 60, .inl f1))]) hP hD [1, 2, 3] [0] rfl rfl (by decide) (by decide) hk1 hFc hP1 hD1 rfl
  have hK := (hK.sub (tys' := []) [] rfl).app hK1
  generalize H1 = H at hP hS ⊢
  have hK : va_K (dC, dI) vwCl [(y0, .int), (y1, .int)] s := hK
  rw [hQ]
  obtain ⟨hP9, hD9⟩ := nv_sub2 (wc := [(h0, .inr (0, [.ref h1, .ref h2, .ref h3, .ref h4, .ref h5, .ref h6, .ref h7, .int x1, .int x2, .int x3, .int x4, .int x5, .int x6, .int x7, .int x8, .int x9, .int x10])), (h7, .inr (4, [.ref h8, .ref h9, .ref h10, .int x11])), (h10, .inl (y0, 60, .inl f0)), (h9, .inl (y1, 60, .inl f1))]) hP hD [0, 1, 2, 3] (by decide) rfl
  have hK9 := hK.sub (tys' := [(y0, .int), (y1, .int)]) [0, 1] rfl
  exact W.iret (v := r1) hx hb hr (fun t ht hW => ⟨⟨r1, (), rfl, trivial, by rw [ht]; exact hP9, va_K.moved hW.alike hK9, hD9⟩, hS.F ht⟩) hS.2.2 dX0_labelOfLine_8
set_option maxHeartbeats 100000000 in
set_option maxRecDepth 100000 in
theorem cX11_label_1 (l : Launch) (dC : Nat → ClassId) (dI : Nat → Nat → Nat) (h0 h1 h2 h3 h4 h5 h6 h7 h8 h9 h10 h11 h12 h13 h14 h15 : Nat) (y0 y1 : ClassId) (sz : Nat) (x0 x1 x2 x3 x4 x5 x6 x7 x8 x9 x10 x11 x12 x13 : Int32) (f0 f1 : Nat → Int32) (ix1 : iv x1 0 2600) (ix3 : iv x3 0 2600) (ix4 : iv x4 0 1) (ix10 : iv x10 0 1) (ix13 : iv x13 0 60) : Met l yX11_label (Cond.code yX11_label cX11_label 2 (some .int) :: lw_G) ({ frames := 2, cells := 0, slots := 0, locals := 43 }) (va_Pc [.ref h0, .int x0] (fun U => U.heap.size = sz ∧ va_P (dC, dI) vwCl [(h0, .inr (11, [.ref h1, .ref h2, .ref h3, .ref h4, .ref h5, .int x1, .int x2])), (h4, .inr (0, [.ref h6, .ref h7, .ref h8, .ref h9, .ref h10, .ref h11, .ref h12, .int x3, .int x4, .int x5, .int x6, .int x7, .int x8, .int x9, .int x10, .int x11, .int x12])), (h12, .inr (4, [.ref h13, .ref h14, .ref h15, .int x13])), (h15, .inl (y0, 60, .inl f0)), (h14, .inl (y1, 60, .inl f1))] U.heap ∧ va_K (dC, dI) vwCl [(y0, .int), (y1, .int)] U ∧ va_D (fun _ => True) [(h0, .inr (11, [.ref h1, .ref h2, .ref h3, .ref h4, .ref h5, .int x1, .int x2])), (h4, .inr (0, [.ref h6, .ref h7, .ref h8, .ref h9, .ref h10, .ref h11, .ref h12, .int x3, .int x4, .int x5, .int x6, .int x7, .int x8, .int x9, .int x10, .int x11, .int x12])), (h12, .inr (4, [.ref h13, .ref h14, .ref h15, .int x13])), (h15, .inl (y0, 60, .inl f0)), (h14, .inl (y1, 60, .inl f1))])) (va_Qi (fun (r : Int32) (u : Unit) => True) (fun (u : Unit) (t : State) => va_P (dC, dI) vwCl [(h0, .inr (11, [.ref h1, .ref h2, .ref h3, .ref h4, .ref h5, .int x1, .int x2])), (h4, .inr (0, [.ref h6, .ref h7, .ref h8, .ref h9, .ref h10, .ref h11, .ref h12, .int x3, .int x4, .int x5, .int x6, .int x7, .int x8, .int x9, .int x10, .int x11, .int x12])), (h12, .inr (4, [.ref h13, .ref h14, .ref h15, .int x13])), (h15, .inl (y0, 60, .inl f0)), (h14, .inl (y1, 60, .inl f1))] t.heap ∧ va_K (dC, dI) vwCl [(y0, .int), (y1, .int)] t ∧ va_D (va_A [(h0, .inr (11, [.ref h1, .ref h2, .ref h3, .ref h4, .ref h5, .int x1, .int x2])), (h4, .inr (0, [.ref h6, .ref h7, .ref h8, .ref h9, .ref h10, .ref h11, .ref h12, .int x3, .int x4, .int x5, .int x6, .int x7, .int x8, .int x9, .int x10, .int x11, .int x12])), (h12, .inr (4, [.ref h13, .ref h14, .ref h15, .int x13])), (h15, .inl (y0, 60, .inl f0)), (h14, .inl (y1, 60, .inl f1))] sz) [(h0, .inr (11, [.ref h1, .ref h2, .ref h3, .ref h4, .ref h5, .int x1, .int x2])), (h4, .inr (0, [.ref h6, .ref h7, .ref h8, .ref h9, .ref h10, .ref h11, .ref h12, .int x3, .int x4, .int x5, .int x6, .int x7, .int x8, .int x9, .int x10, .int x11, .int x12])), (h12, .inr (4, [.ref h13, .ref h14, .ref h15, .int x13])), (h15, .inl (y0, 60, .inl f0)), (h14, .inl (y1, 60, .inl f1))]) (va_A [(h0, .inr (11, [.ref h1, .ref h2, .ref h3, .ref h4, .ref h5, .int x1, .int x2])), (h4, .inr (0, [.ref h6, .ref h7, .ref h8, .ref h9, .ref h10, .ref h11, .ref h12, .int x3, .int x4, .int x5, .int x6, .int x7, .int x8, .int x9, .int x10, .int x11, .int x12])), (h12, .inr (4, [.ref h13, .ref h14, .ref h15, .int x13])), (h15, .inl (y0, 60, .inl f0)), (h14, .inl (y1, 60, .inl f1))] sz)) 0 0 (va_A [(h0, .inr (11, [.ref h1, .ref h2, .ref h3, .ref h4, .ref h5, .int x1, .int x2])), (h4, .inr (0, [.ref h6, .ref h7, .ref h8, .ref h9, .ref h10, .ref h11, .ref h12, .int x3, .int x4, .int x5, .int x6, .int x7, .int x8, .int x9, .int x10, .int x11, .int x12])), (h12, .inr (4, [.ref h13, .ref h14, .ref h15, .int x13])), (h15, .inl (y0, 60, .inl f0)), (h14, .inl (y1, 60, .inl f1))] sz) := by
  refine Met.ofW (cc := cX11_label) (maxL := 2) (ret := (some .int)) (by decide) rfl ?_
  intro p e s m args below meth c s₁ B hml hv
  obtain ⟨rfl, hsz, hP, hK, hD0⟩ := hv
  have hx := B.exec
  have hb := B.bytes
  have hr := B.returns
  have hts0 := atoms_spec (ws := Cond.code yX11_label cX11_label 2 (some .int) :: lw_G) B.pre
  have hG : ∀ w ∈ lw_G, w.before _ s = true := fun w h => hts0 w (List.mem_cons_of_mem _ h)
  have hown : s.vm.findClass RX11 = some m.cls := findClass_of_methodNamed B.named
  have hlocks := B.notSynchronized
  subst hsz
  have hD := hD0.self (sz := s.heap.size)
  generalize hAe : va_A [(h0, .inr (11, [.ref h1, .ref h2, .ref h3, .ref h4, .ref h5, .int x1, .int x2])), (h4, .inr (0, [.ref h6, .ref h7, .ref h8, .ref h9, .ref h10, .ref h11, .ref h12, .int x3, .int x4, .int x5, .int x6, .int x7, .int x8, .int x9, .int x10, .int x11, .int x12])), (h12, .inr (4, [.ref h13, .ref h14, .ref h15, .int x13])), (h15, .inl (y0, 60, .inl f0)), (h14, .inl (y1, 60, .inl f1))] s.heap.size = A at hD ⊢
  have hA : ∀ q : Nat, s.heap.size ≤ q → A q := fun q h => by rw [← hAe]; exact Or.inr h
  have hS : va_S A s.heap s.heap [] := va_S.rf
  have hP : va_P (dC, dI) vwCl [(h0, .inr (11, [.ref h1, .ref h2, .ref h3, .ref h4, .ref h5, .int x1, .int x2])), (h4, .inr (0, [.ref h6, .ref h7, .ref h8, .ref h9, .ref h10, .ref h11, .ref h12, .int x3, .int x4, .int x5, .int x6, .int x7, .int x8, .int x9, .int x10, .int x11, .int x12])), (h12, .inr (4, [.ref h13, .ref h14, .ref h15, .int x13])), (h15, .inl (y0, 60, .inl f0)), (h14, .inl (y1, 60, .inl f1))] s.heap := hP
  have hl := lv_entry ([.ref h0, .int x0]) (n := 2) (Nat.le_of_ble_eq_true rfl)
  rw [lg_entry_eq]
  generalize (lg_sl ([.ref h0, .int x0]) ++ List.replicate (2 - (lg_sl ([.ref h0, .int x0])).length) Slot.unset).toArray = ls at hl ⊢
  have hl : lv_has ls 2 [(0, .ref h0), (1, .int x0)] := hl
  generalize ([.ref h0, .int x0] : List Value).toArray = ar at hG ⊢
  refine wq (fun Q hQ => ?_)
  refine lv_aload_n hx hb dX11_label_0 rfl (lv_at hl 0 rfl) ?_
  refine va_get (D := (dC, dI)) (ci := 11) (v := .ref h4) (C := RX11) (T := TX11) (N := 7) hx hb hG inGX11 hown hK hP 0 rfl rfl 3 (by decide) (hG _ wd_398) (fun _ h9 => h9) rfl dX11_label_1 ?_
  refine lv_iload_n hx hb dX11_label_4 rfl (lv_at hl 1 rfl) ?_
  obtain ⟨hPc, hDc, hFc⟩ := nv_sub3 (wc := [(h4, .inr (0, [.ref h6, .ref h7, .ref h8, .ref h9, .ref h10, .ref h11, .ref h12, .int x3, .int x4, .int x5, .int x6, .int x7, .int x8, .int x9, .int x10, .int x11, .int x12])), (h12, .inr (4, [.ref h13, .ref h14, .ref h15, .int x13])), (h15, .inl (y0, 60, .inl f0)), (h14, .inl (y1, 60, .inl f1))]) hP hD hS hA [1, 2, 3, 4] (by decide) rfl
  have hKc := hK.sub (tys' := [(y0, .int), (y1, .int)]) [0, 1] rfl
  refine va_calli (va_runV (As := [.int x0]) (rest := []) ⟨hx, hb, hml, hown, hG⟩ (cX0_labelOfLine_1 l dC dI h4 h6 h7 h8 h9 h10 h11 h12 h13 h14 h15 y0 y1 s.heap.size x0 x3 x4 x5 x6 x7 x8 x9 x10 x11 x12 x13 f0 f1 ix3 ix4 ix10 ix13) (cwV 1 hG (gV wd_784 wd_785 wd_786 wd_8 wd_787) rfl rfl rfl (by decide +kernel) ⟨Nat.le_of_ble_eq_true rfl, Nat.le_of_ble_eq_true rfl⟩) ⟨fun a U g mk q => by obtain ⟨q0, q1, qP, qK, qD⟩ := q; exact ⟨q0, q1, qP, va_K.moved (u := U) (U := U.calling g mk a) (Vm.Alike.refl U.vm) qK, qD⟩, va_recv hKc hPc (ci := 0) (q0 := 0) rfl rfl, fun U hU hW => ⟨rfl, by rw [hU], by rw [hU]; exact hPc, va_K.moved hW.alike hKc, hDc.weaken (fun _ _ _ _ => trivial)⟩⟩ rfl rfl hl.1 rfl (lv_room (Nat.le_of_ble_eq_true rfl)) dX11_label_5 ⟨by decide, by decide⟩) hS (fun q _ h => hFc q h) hFc (fun r1 u2 t H1 locs ht hvm hw hB hz1 hk1 hS => ?_)
  obtain ⟨hP1, hK1, hD1⟩ := hB
  rw [ht] at hP1
  have hK1 := va_K.moved hvm.symm hK1
  obtain ⟨hP, hD⟩ := nv_join (wf := [(h0, .inr (11, [.ref h1, .ref h2, .ref h3, .ref h4, .ref h5, .int x1, .int x2])), (h4, .inr (0, [.ref h6, .ref h7, .ref h8, .ref h9, .ref h10, .ref h11, .ref h12, .int x3, .int x4, .int x5, .int x6, .int x7, .int x8, .int x9, .int x10, .int x11, .int x12])), (h12, .inr (4, [.ref h13, .ref h14, .ref h15, .int x13])), (h15, .inl (y0, 60, .inl f0)), (h14, .inl (y1, 60, .inl f1))]) hP hD [1, 2, 3, 4] [0] rfl rfl (by decide) (by decide) hk1 hFc hP1 hD1 rfl
  have hK := (hK.sub (tys' := []) [] rfl).app hK1
  generalize H1 = H at hP hS ⊢
  have hK : va_K (dC, dI) vwCl [(y0, .int), (y1, .int)] s := hK
  rw [hQ]
  obtain ⟨hP9, hD9⟩ := nv_sub2 (wc := [(h0, .inr (11, [.ref h1, .ref h2, .ref h3, .ref h4, .ref h5, .int x1, .int x2])), (h4, .inr (0, [.ref h6, .ref h7, .ref h8, .ref h9, .ref h10, .ref h11, .ref h12, .int x3, .int x4, .int x5, .int x6, .int x7, .int x8, .int x9, .int x10, .int x11, .int x12])), (h12, .inr (4, [.ref h13, .ref h14, .ref h15, .int x13])), (h15, .inl (y0, 60, .inl f0)), (h14, .inl (y1, 60, .inl f1))]) hP hD [0, 1, 2, 3, 4] (by decide) rfl
  have hK9 := hK.sub (tys' := [(y0, .int), (y1, .int)]) [0, 1] rfl
  exact W.iret (v := r1) hx hb hr (fun t ht hW => ⟨⟨r1, (), rfl, trivial, by rw [ht]; exact hP9, va_K.moved hW.alike hK9, hD9⟩, hS.F ht⟩) hS.2.2 dX11_label_8
set_option maxHeartbeats 100000000 in
set_option maxRecDepth 100000 in
theorem cX12_label_1 (l : Launch) (dC : Nat → ClassId) (dI : Nat → Nat → Nat) (h0 h1 h2 h3 h4 h5 h6 h7 h8 h9 h10 h11 h12 h13 h14 h15 h16 h17 : Nat) (y0 y1 : ClassId) (sz : Nat) (x0 x1 x2 x3 x4 x5 x6 x7 x8 x9 x10 x11 x12 x13 x14 x15 x16 x17 x18 x19 x20 x21 x22 x23 x24 x25 x26 x27 x28 x29 x30 x31 x32 x33 x34 x35 x36 x37 x38 x39 x40 x41 x42 x43 x44 x45 x46 x47 x48 x49 x50 x51 x52 x53 x54 : Int32) (z0 : Int64) (f0 f1 : Nat → Int32) (ix16 : iv x16 0 1) (ix17 : iv x17 0 40) (ix22 : iv x22 0 65535) (ix23 : iv x23 0 1) (ix24 : iv x24 0 1) (ix25 : iv x25 0 2600) (ix26 : iv x26 0 2600) (ix27 : iv x27 0 2500) (ix28 : iv x28 0 2500) (ix32 : iv x32 0 1048575) (ix33 : iv x33 0 60) (ix34 : iv x34 0 60) (ix35 : iv x35 0 1) (ix36 : iv x36 0 1) (ix37 : iv x37 0 65535) (ix42 : iv x42 0 5200) (ix43 : iv x43 0 70800) (ix47 : iv x47 0 1) (ix48 : iv x48 0 1) (ix50 : iv x50 0 100) (ix54 : iv x54 0 1) : Met l yX12_label (Cond.code yX12_label cX12_label 3 (some .int) :: lw_G) ({ frames := 0, cells := 0, slots := 0, locals := 0 }) (va_Pc [.ref h0, .int x0] (fun U => U.heap.size = sz ∧ va_P (dC, dI) vwCl [(h0, .inr (12, .int x1 :: .ref h1 :: .ref h2 :: .int x2 :: .int x3 :: .int x4 :: .int x5 :: .int x6 :: .int x7 :: .int x8 :: .int x9 :: .int x10 :: [.int x11, .int x12, .int x13, .int x14, .int x15, .int x16, .ref h3, .ref h4, .ref h5, .ref h6, .int x17, .int x18, .int x19, .int x20, .int x21, .int x22, .int x23, .int x24, .ref h7, .int x25, .int x26, .int x27, .int x28, .ref h8, .ref h9, .int x29, .int x30, .long z0, .int x31, .int x32, .ref h10, .ref h11, .ref h12, .ref h13, .ref h14, .int x33, .int x34, .int x35, .int x36, .int x37, .int x38, .int x39, .int x40, .int x41, .ref h15, .ref h16, .int x42, .int x43, .int x44, .int x45, .int x46, .int x47, .int x48, .int x49, .ref h17, .int x50, .int x51, .int x52, .int x53, .int x54])), (h14, .inl (y0, 60, .inl f0)), (h13, .inl (y1, 60, .inl f1))] U.heap ∧ va_K (dC, dI) vwCl [(y0, .int), (y1, .int)] U ∧ va_D (fun _ => True) [(h0, .inr (12, .int x1 :: .ref h1 :: .ref h2 :: .int x2 :: .int x3 :: .int x4 :: .int x5 :: .int x6 :: .int x7 :: .int x8 :: .int x9 :: .int x10 :: [.int x11, .int x12, .int x13, .int x14, .int x15, .int x16, .ref h3, .ref h4, .ref h5, .ref h6, .int x17, .int x18, .int x19, .int x20, .int x21, .int x22, .int x23, .int x24, .ref h7, .int x25, .int x26, .int x27, .int x28, .ref h8, .ref h9, .int x29, .int x30, .long z0, .int x31, .int x32, .ref h10, .ref h11, .ref h12, .ref h13, .ref h14, .int x33, .int x34, .int x35, .int x36, .int x37, .int x38, .int x39, .int x40, .int x41, .ref h15, .ref h16, .int x42, .int x43, .int x44, .int x45, .int x46, .int x47, .int x48, .int x49, .ref h17, .int x50, .int x51, .int x52, .int x53, .int x54])), (h14, .inl (y0, 60, .inl f0)), (h13, .inl (y1, 60, .inl f1))])) (va_Qi (fun (r : Int32) (u : Unit) => True) (fun (u : Unit) (t : State) => va_P (dC, dI) vwCl [(h0, .inr (12, .int 0 :: .ref h1 :: .ref h2 :: .int x2 :: .int x3 :: .int x4 :: .int x5 :: .int x6 :: .int x7 :: .int x8 :: .int x9 :: .int x10 :: [.int x11, .int x12, .int x13, .int x14, .int x15, .int x16, .ref h3, .ref h4, .ref h5, .ref h6, .int x17, .int x18, .int x19, .int x20, .int x21, .int x22, .int x23, .int x24, .ref h7, .int x25, .int x26, .int x27, .int x28, .ref h8, .ref h9, .int x29, .int x30, .long z0, .int x31, .int x32, .ref h10, .ref h11, .ref h12, .ref h13, .ref h14, .int x33, .int x34, .int x35, .int x36, .int x37, .int x38, .int x39, .int x40, .int x41, .ref h15, .ref h16, .int x42, .int x43, .int x44, .int x45, .int x46, .int x47, .int x48, .int x49, .ref h17, .int x50, .int x51, .int x52, .int x53, .int x54])), (h14, .inl (y0, 60, .inl f0)), (h13, .inl (y1, 60, .inl f1))] t.heap ∧ va_K (dC, dI) vwCl [(y0, .int), (y1, .int)] t ∧ va_D (va_A [(h0, .inr (12, .int x1 :: .ref h1 :: .ref h2 :: .int x2 :: .int x3 :: .int x4 :: .int x5 :: .int x6 :: .int x7 :: .int x8 :: .int x9 :: .int x10 :: [.int x11, .int x12, .int x13, .int x14, .int x15, .int x16, .ref h3, .ref h4, .ref h5, .ref h6, .int x17, .int x18, .int x19, .int x20, .int x21, .int x22, .int x23, .int x24, .ref h7, .int x25, .int x26, .int x27, .int x28, .ref h8, .ref h9, .int x29, .int x30, .long z0, .int x31, .int x32, .ref h10, .ref h11, .ref h12, .ref h13, .ref h14, .int x33, .int x34, .int x35, .int x36, .int x37, .int x38, .int x39, .int x40, .int x41, .ref h15, .ref h16, .int x42, .int x43, .int x44, .int x45, .int x46, .int x47, .int x48, .int x49, .ref h17, .int x50, .int x51, .int x52, .int x53, .int x54])), (h14, .inl (y0, 60, .inl f0)), (h13, .inl (y1, 60, .inl f1))] sz) [(h0, .inr (12, .int 0 :: .ref h1 :: .ref h2 :: .int x2 :: .int x3 :: .int x4 :: .int x5 :: .int x6 :: .int x7 :: .int x8 :: .int x9 :: .int x10 :: [.int x11, .int x12, .int x13, .int x14, .int x15, .int x16, .ref h3, .ref h4, .ref h5, .ref h6, .int x17, .int x18, .int x19, .int x20, .int x21, .int x22, .int x23, .int x24, .ref h7, .int x25, .int x26, .int x27, .int x28, .ref h8, .ref h9, .int x29, .int x30, .long z0, .int x31, .int x32, .ref h10, .ref h11, .ref h12, .ref h13, .ref h14, .int x33, .int x34, .int x35, .int x36, .int x37, .int x38, .int x39, .int x40, .int x41, .ref h15, .ref h16, .int x42, .int x43, .int x44, .int x45, .int x46, .int x47, .int x48, .int x49, .ref h17, .int x50, .int x51, .int x52, .int x53, .int x54])), (h14, .inl (y0, 60, .inl f0)), (h13, .inl (y1, 60, .inl f1))]) (va_A [(h0, .inr (12, .int x1 :: .ref h1 :: .ref h2 :: .int x2 :: .int x3 :: .int x4 :: .int x5 :: .int x6 :: .int x7 :: .int x8 :: .int x9 :: .int x10 :: [.int x11, .int x12, .int x13, .int x14, .int x15, .int x16, .ref h3, .ref h4, .ref h5, .ref h6, .int x17, .int x18, .int x19, .int x20, .int x21, .int x22, .int x23, .int x24, .ref h7, .int x25, .int x26, .int x27, .int x28, .ref h8, .ref h9, .int x29, .int x30, .long z0, .int x31, .int x32, .ref h10, .ref h11, .ref h12, .ref h13, .ref h14, .int x33, .int x34, .int x35, .int x36, .int x37, .int x38, .int x39, .int x40, .int x41, .ref h15, .ref h16, .int x42, .int x43, .int x44, .int x45, .int x46, .int x47, .int x48, .int x49, .ref h17, .int x50, .int x51, .int x52, .int x53, .int x54])), (h14, .inl (y0, 60, .inl f0)), (h13, .inl (y1, 60, .inl f1))] sz)) 0 0 (va_A [(h0, .inr (12, .int x1 :: .ref h1 :: .ref h2 :: .int x2 :: .int x3 :: .int x4 :: .int x5 :: .int x6 :: .int x7 :: .int x8 :: .int x9 :: .int x10 :: [.int x11, .int x12, .int x13, .int x14, .int x15, .int x16, .ref h3, .ref h4, .ref h5, .ref h6, .int x17, .int x18, .int x19, .int x20, .int x21, .int x22, .int x23, .int x24, .ref h7, .int x25, .int x26, .int x27, .int x28, .ref h8, .ref h9, .int x29, .int x30, .long z0, .int x31, .int x32, .ref h10, .ref h11, .ref h12, .ref h13, .ref h14, .int x33, .int x34, .int x35, .int x36, .int x37, .int x38, .int x39, .int x40, .int x41, .ref h15, .ref h16, .int x42, .int x43, .int x44, .int x45, .int x46, .int x47, .int x48, .int x49, .ref h17, .int x50, .int x51, .int x52, .int x53, .int x54])), (h14, .inl (y0, 60, .inl f0)), (h13, .inl (y1, 60, .inl f1))] sz) := by
  refine Met.ofW (cc := cX12_label) (maxL := 3) (ret := (some .int)) (by decide) rfl ?_
  intro p e s m args below meth c s₁ B hml hv
  obtain ⟨rfl, hsz, hP, hK, hD0⟩ := hv
  have hx := B.exec
  have hb := B.bytes
  have hr := B.returns
  have hts0 := atoms_spec (ws := Cond.code yX12_label cX12_label 3 (some .int) :: lw_G) B.pre
  have hG : ∀ w ∈ lw_G, w.before _ s = true := fun w h => hts0 w (List.mem_cons_of_mem _ h)
  have hown : s.vm.findClass RX12 = some m.cls := findClass_of_methodNamed B.named
  have hlocks := B.notSynchronized
  subst hsz
  have hD := hD0.self (sz := s.heap.size)
  generalize hAe : va_A [(h0, .inr (12, .int x1 :: .ref h1 :: .ref h2 :: .int x2 :: .int x3 :: .int x4 :: .int x5 :: .int x6 :: .int x7 :: .int x8 :: .int x9 :: .int x10 :: [.int x11, .int x12, .int x13, .int x14, .int x15, .int x16, .ref h3, .ref h4, .ref h5, .ref h6, .int x17, .int x18, .int x19, .int x20, .int x21, .int x22, .int x23, .int x24, .ref h7, .int x25, .int x26, .int x27, .int x28, .ref h8, .ref h9, .int x29, .int x30, .long z0, .int x31, .int x32, .ref h10, .ref h11, .ref h12, .ref h13, .ref h14, .int x33, .int x34, .int x35, .int x36, .int x37, .int x38, .int x39, .int x40, .int x41, .ref h15, .ref h16, .int x42, .int x43, .int x44, .int x45, .int x46, .int x47, .int x48, .int x49, .ref h17, .int x50, .int x51, .int x52, .int x53, .int x54])), (h14, .inl (y0, 60, .inl f0)), (h13, .inl (y1, 60, .inl f1))] s.heap.size = A at hD ⊢
  have hA : ∀ q : Nat, s.heap.size ≤ q → A q := fun q h => by rw [← hAe]; exact Or.inr h
  have hS : va_S A s.heap s.heap [] := va_S.rf
  have hP : va_P (dC, dI) vwCl [(h0, .inr (12, .int x1 :: .ref h1 :: .ref h2 :: .int x2 :: .int x3 :: .int x4 :: .int x5 :: .int x6 :: .int x7 :: .int x8 :: .int x9 :: .int x10 :: [.int x11, .int x12, .int x13, .int x14, .int x15, .int x16, .ref h3, .ref h4, .ref h5, .ref h6, .int x17, .int x18, .int x19, .int x20, .int x21, .int x22, .int x23, .int x24, .ref h7, .int x25, .int x26, .int x27, .int x28, .ref h8, .ref h9, .int x29, .int x30, .long z0, .int x31, .int x32, .ref h10, .ref h11, .ref h12, .ref h13, .ref h14, .int x33, .int x34, .int x35, .int x36, .int x37, .int x38, .int x39, .int x40, .int x41, .ref h15, .ref h16, .int x42, .int x43, .int x44, .int x45, .int x46, .int x47, .int x48, .int x49, .ref h17, .int x50, .int x51, .int x52, .int x53, .int x54])), (h14, .inl (y0, 60, .inl f0)), (h13, .inl (y1, 60, .inl f1))] s.heap := hP
  have hl := lv_entry ([.ref h0, .int x0]) (n := 3) (Nat.le_of_ble_eq_true rfl)
  rw [lg_entry_eq]
  generalize (lg_sl ([.ref h0, .int x0]) ++ List.replicate (3 - (lg_sl ([.ref h0, .int x0])).length) Slot.unset).toArray = ls at hl ⊢
  have hl : lv_has ls 3 [(0, .ref h0), (1, .int x0)] := hl
  generalize ([.ref h0, .int x0] : List Value).toArray = ar at hG ⊢
  refine wq (fun Q hQ => ?_)
  refine lv_aload_n hx hb dX12_label_0 rfl (lv_at hl 0 rfl) ?_
  refine lv_iconst (v := 0) hx hb dX12_label_1 (by decide) ?_
  refine va_put (D := (dC, dI)) (ci := 12) (v := .int 0) (ty := .int) (C := RX12) (T := TX12) (N := 72) hx hb hG inGX12 tyX12 tyX12_ok nmX12 hown hK hP hD hS 0 rfl rfl 0 (by decide) (hG _ wd_1307) (fun _ h9 => h9) rfl (by decide +kernel) rfl rfl (Nat.le_of_ble_eq_true rfl) dX12_label_2 (fun H locs hP hD hS => ?_)
  obtain ⟨hP, hD⟩ := nv_eq (ws' := [(h0, .inr (12, .int 0 :: .ref h1 :: .ref h2 :: .int x2 :: .int x3 :: .int x4 :: .int x5 :: .int x6 :: .int x7 :: .int x8 :: .int x9 :: .int x10 :: [.int x11, .int x12, .int x13, .int x14, .int x15, .int x16, .ref h3, .ref h4, .ref h5, .ref h6, .int x17, .int x18, .int x19, .int x20, .int x21, .int x22, .int x23, .int x24, .ref h7, .int x25, .int x26, .int x27, .int x28, .ref h8, .ref h9, .int x29, .int x30, .long z0, .int x31, .int x32, .ref h10, .ref h11, .ref h12, .ref h13, .ref h14, .int x33, .int x34, .int x35, .int x36, .int x37, .int x38, .int x39, .int x40, .int x41, .ref h15, .ref h16, .int x42, .int x43, .int x44, .int x45, .int x46, .int x47, .int x48, .int x49, .ref h17, .int x50, .int x51, .int x52, .int x53, .int x54])), (h14, .inl (y0, 60, .inl f0)), (h13, .inl (y1, 60, .inl f1))]) hP hD rfl
  refine lv_iconst (v := 0) hx hb dX12_label_5 (by decide) ?_
  refine lv_istore_n (lv' := [(2, .int 0), (0, .ref h0), (1, .int x0)]) hx hb dX12_label_6 rfl hl (by decide) rfl (fun ls hl => ?_)
  refine jcut (a := ∀ (n : Nat) (b177 : Int32) (ib177 : iv b177 0 60) (hm : (60 - b177.toInt).toNat < n) (H : Heap) (locs : List Loc) (hK : va_K (dC, dI) vwCl [(y0, .int), (y1, .int)] s) (hP : va_P (dC, dI) vwCl [(h0, .inr (12, .int 0 :: .ref h1 :: .ref h2 :: .int x2 :: .int x3 :: .int x4 :: .int x5 :: .int x6 :: .int x7 :: .int x8 :: .int x9 :: .int x10 :: [.int x11, .int x12, .int x13, .int x14, .int x15, .int x16, .ref h3, .ref h4, .ref h5, .ref h6, .int x17, .int x18, .int x19, .int x20, .int x21, .int x22, .int x23, .int x24, .ref h7, .int x25, .int x26, .int x27, .int x28, .ref h8, .ref h9, .int x29, .int x30, .long z0, .int x31, .int x32, .ref h10, .ref h11, .ref h12, .ref h13, .ref h14, .int x33, .int x34, .int x35, .int x36, .int x37, .int x38, .int x39, .int x40, .int x41, .ref h15, .ref h16, .int x42, .int x43, .int x44, .int x45, .int x46, .int x47, .int x48, .int x49, .ref h17, .int x50, .int x51, .int x52, .int x53, .int x54])), (h14, .inl (y0, 60, .inl f0)), (h13, .inl (y1, 60, .inl f1))] H) (hD : va_D A [(h0, .inr (12, .int 0 :: .ref h1 :: .ref h2 :: .int x2 :: .int x3 :: .int x4 :: .int x5 :: .int x6 :: .int x7 :: .int x8 :: .int x9 :: .int x10 :: [.int x11, .int x12, .int x13, .int x14, .int x15, .int x16, .ref h3, .ref h4, .ref h5, .ref h6, .int x17, .int x18, .int x19, .int x20, .int x21, .int x22, .int x23, .int x24, .ref h7, .int x25, .int x26, .int x27, .int x28, .ref h8, .ref h9, .int x29, .int x30, .long z0, .int x31, .int x32, .ref h10, .ref h11, .ref h12, .ref h13, .ref h14, .int x33, .int x34, .int x35, .int x36, .int x37, .int x38, .int x39, .int x40, .int x41, .ref h15, .ref h16, .int x42, .int x43, .int x44, .int x45, .int x46, .int x47, .int x48, .int x49, .ref h17, .int x50, .int x51, .int x52, .int x53, .int x54])), (h14, .inl (y0, 60, .inl f0)), (h13, .inl (y1, 60, .inl f1))]) (hS : va_S A s.heap H locs) (ls : Array Slot) (hl : lv_has ls 3 [(2, .int b177), (0, .ref h0), (1, .int x0)]), W p l e (headSpec (Cond.code yX12_label cX12_label 3 (some .int) :: lw_G) ({ frames := 0, cells := 0, slots := 0, locals := 0 })).room s m ar below meth c H locs 0 0 Q (F0 m 7 ls [])) ?_ (fun lp188 => ?_)
  · skip
    intro n
    induction n with
    | zero => intro b177 ib177 hm H locs hK hP hD hS ls hl; exact absurd hm (Nat.not_lt_zero _)
    | succ n ih =>
      intro b177 ib177 hm H locs hK hP hD hS ls hl
      refine lv_iload_n hx hb dX12_label_7 rfl (lv_at hl 0 rfl) ?_
      refine lv_aload_n hx hb dX12_label_8 rfl (lv_at hl 1 rfl) ?_
      refine va_get (D := (dC, dI)) (ci := 12) (v := .int x34) (C := RX12) (T := TX12) (N := 72) hx hb hG inGX12 hown hK hP 0 rfl rfl 48 (by decide) (hG _ wd_1355) (fun _ h9 => h9) rfl dX12_label_9 ?_
      refine lv_icmp_ge (tgt := 38) hx hb dX12_label_12 (by decide) (fun c189 => ?_) (fun c189 => ?_)
      · skip
        have rl190 : x34.toInt ≤ b177.toInt := Int32.le_iff_toInt_le.mp c189
        refine lv_iconst (v := (-1)) hx hb dX12_label_38 (by decide) ?_
        rw [hQ]
        obtain ⟨hP9, hD9⟩ := nv_sub2 (wc := [(h0, .inr (12, .int 0 :: .ref h1 :: .ref h2 :: .int x2 :: .int x3 :: .int x4 :: .int x5 :: .int x6 :: .int x7 :: .int x8 :: .int x9 :: .int x10 :: [.int x11, .int x12, .int x13, .int x14, .int x15, .int x16, .ref h3, .ref h4, .ref h5, .ref h6, .int x17, .int x18, .int x19, .int x20, .int x21, .int x22, .int x23, .int x24, .ref h7, .int x25, .int x26, .int x27, .int x28, .ref h8, .ref h9, .int x29, .int x30, .long z0, .int x31, .int x32, .ref h10, .ref h11, .ref h12, .ref h13, .ref h14, .int x33, .int x34, .int x35, .int x36, .int x37, .int x38, .int x39, .int x40, .int x41, .ref h15, .ref h16, .int x42, .int x43, .int x44, .int x45, .int x46, .int x47, .int x48, .int x49, .ref h17, .int x50, .int x51, .int x52, .int x53, .int x54])), (h14, .inl (y0, 60, .inl f0)), (h13, .inl (y1, 60, .inl f1))]) hP hD [0, 1, 2] (by decide) rfl
        have hK9 := hK.sub (tys' := [(y0, .int), (y1, .int)]) [0, 1] rfl
        exact W.iret (v := (-1)) hx hb hr (fun t ht hW => ⟨⟨(-1), (), rfl, trivial, by rw [ht]; exact hP9, va_K.moved hW.alike hK9, hD9⟩, hS.F ht⟩) hS.2.2 dX12_label_39
      · skip
        have rl191 : b177.toInt < x34.toInt := iv_nle2 c189
        have j192 : iv x34 1 60 := iv_nleL ix34 ib177 c189 (by decide)
        have j193 : iv b177 0 59 := iv_nleR ix34 ib177 c189 (by decide)
        refine lv_aload_n hx hb dX12_label_15 rfl (lv_at hl 1 rfl) ?_
        refine va_get (D := (dC, dI)) (ci := 12) (v := .ref h14) (C := RX12) (T := TX12) (N := 72) hx hb hG inGX12 hown hK hP 0 rfl rfl 46 (by decide) (hG _ wd_1353) (fun _ h9 => h9) rfl dX12_label_16 ?_
        refine lv_iload_n hx hb dX12_label_19 rfl (lv_at hl 0 rfl) ?_
        refine va_iald hx hb hK hP 1 0 rfl rfl (iv_in j193 (by decide) (by decide) : vp_in b177 60) dX12_label_20 ?_
        refine lv_topi (fun v194 ev194 => ?_)
        refine lv_iload_n hx hb dX12_label_21 rfl (lv_at hl 2 rfl) ?_
        refine lv_icmp_ne (tgt := 32) hx hb dX12_label_22 (by decide) (fun c195 => ?_) (fun c195 => ?_)
        · skip
          obtain ⟨v196, ev196⟩ : ∃ y : Int32, y = b177 + Int32.ofInt 1 := ⟨_, rfl⟩
          have iv196 : iv v196 1 60 := iv_eq ev196 (iv_add j193 (by decide : iv (Int32.ofInt 1) 1 1) (by decide) (by decide))
          have tv196 : v196.toInt = b177.toInt + 1 := iv_addT ev196 j193 (by decide) (by decide) (by decide)
          refine lv_iinc (v := v196) (lv' := [(2, .int v196), (0, .ref h0), (1, .int x0)]) hx hb dX12_label_32 hl (k := 0) rfl ev196.symm (by decide) rfl (fun ls hl => ?_)
          refine lv_goto (tgt := 7) hx hb dX12_label_35 (by decide) ?_
          exact ih v196 (iv_w iv196 (by decide) (by decide)) (by omega) _ _ hK hP hD hS ls hl
        · skip
          refine lv_aload_n hx hb dX12_label_25 rfl (lv_at hl 1 rfl) ?_
          refine va_get (D := (dC, dI)) (ci := 12) (v := .ref h13) (C := RX12) (T := TX12) (N := 72) hx hb hG inGX12 hown hK hP 0 rfl rfl 45 (by decide) (hG _ wd_1352) (fun _ h9 => h9) rfl dX12_label_26 ?_
          refine lv_iload_n hx hb dX12_label_29 rfl (lv_at hl 0 rfl) ?_
          refine va_iald hx hb hK hP 2 1 rfl rfl (iv_in j193 (by decide) (by decide) : vp_in b177 60) dX12_label_30 ?_
          refine lv_topi (fun v197 ev197 => ?_)
          rw [hQ]
          obtain ⟨hP9, hD9⟩ := nv_sub2 (wc := [(h0, .inr (12, .int 0 :: .ref h1 :: .ref h2 :: .int x2 :: .int x3 :: .int x4 :: .int x5 :: .int x6 :: .int x7 :: .int x8 :: .int x9 :: .int x10 :: [.int x11, .int x12, .int x13, .int x14, .int x15, .int x16, .ref h3, .ref h4, .ref h5, .ref h6, .int x17, .int x18, .int x19, .int x20, .int x21, .int x22, .int x23, .int x24, .ref h7, .int x25, .int x26, .int x27, .int x28, .ref h8, .ref h9, .int x29, .int x30, .long z0, .int x31, .int x32, .ref h10, .ref h11, .ref h12, .ref h13, .ref h14, .int x33, .int x34, .int x35, .int x36, .int x37, .int x38, .int x39, .int x40, .int x41, .ref h15, .ref h16, .int x42, .int x43, .int x44, .int x45, .int x46, .int x47, .int x48, .int x49, .ref h17, .int x50, .int x51, .int x52, .int x53, .int x54])), (h14, .inl (y0, 60, .inl f0)), (h13, .inl (y1, 60, .inl f1))]) hP hD [0, 1, 2] (by decide) rfl
          have hK9 := hK.sub (tys' := [(y0, .int), (y1, .int)]) [0, 1] rfl
          exact W.iret (v := v197) hx hb hr (fun t ht hW => ⟨⟨v197, (), rfl, trivial, by rw [ht]; exact hP9, va_K.moved hW.alike hK9, hD9⟩, hS.F ht⟩) hS.2.2 dX12_label_31
  exact lp188 _ 0 (iv_w (by decide : iv 0 0 0) (by decide) (by decide)) (Nat.lt_succ_self _) _ _ hK hP hD hS ls hl
set_option maxHeartbeats 100000000 in
set_option maxRecDepth 100000 in
theorem cX7_clear_1 (l : Launch) (dC : Nat → ClassId) (dI : Nat → Nat → Nat) (h0 : Nat) (sz : Nat) (x0 x1 x2 x3 x4 : Int32) : Met l yX7_clear (Cond.code yX7_clear cX7_clear 1 none :: lw_G) ({ frames := 0, cells := 0, slots := 0, locals := 0 }) (va_Pc [.ref h0] (fun U => U.heap.size = sz ∧ va_P (dC, dI) vwCl [(h0, .inr (7, [.int x0, .int x1, .int x2, .int x3, .int x4]))] U.heap ∧ va_K (dC, dI) vwCl [] U ∧ va_D (fun _ => True) [(h0, .inr (7, [.int x0, .int x1, .int x2, .int x3, .int x4]))])) (va_Qv (fun (u : Unit) => True) (fun (u : Unit) (t : State) => va_P (dC, dI) vwCl [(h0, .inr (7, [.int 0, .int 0, .int 0, .int 0, .int 0]))] t.heap ∧ va_K (dC, dI) vwCl [] t ∧ va_D (va_A [(h0, .inr (7, [.int x0, .int x1, .int x2, .int x3, .int x4]))] sz) [(h0, .inr (7, [.int 0, .int 0, .int 0, .int 0, .int 0]))]) (va_A [(h0, .inr (7, [.int x0, .int x1, .int x2, .int x3, .int x4]))] sz)) 0 0 (va_A [(h0, .inr (7, [.int x0, .int x1, .int x2, .int x3, .int x4]))] sz) := by
  refine Met.ofW (cc := cX7_clear) (maxL := 1) (ret := none) (by decide) rfl ?_
  intro p e s m args below meth c s₁ B hml hv
  obtain ⟨rfl, hsz, hP, hK, hD0⟩ := hv
  have hx := B.exec
  have hb := B.bytes
  have hr := B.returns
  have hts0 := atoms_spec (ws := Cond.code yX7_clear cX7_clear 1 none :: lw_G) B.pre
  have hG : ∀ w ∈ lw_G, w.before _ s = true := fun w h => hts0 w (List.mem_cons_of_mem _ h)
  have hown : s.vm.findClass RX7 = some m.cls := findClass_of_methodNamed B.named
  have hlocks := B.notSynchronized
  subst hsz
  have hD := hD0.self (sz := s.heap.size)
  generalize hAe : va_A [(h0, .inr (7, [.int x0, .int x1, .int x2, .int x3, .int x4]))] s.heap.size = A at hD ⊢
  have hA : ∀ q : Nat, s.heap.size ≤ q → A q := fun q h => by rw [← hAe]; exact Or.inr h
  have hS : va_S A s.heap s.heap [] := va_S.rf
  have hP : va_P (dC, dI) vwCl [(h0, .inr (7, [.int x0, .int x1, .int x2, .int x3, .int x4]))] s.heap := hP
  have hl := lv_entry ([.ref h0]) (n := 1) (Nat.le_of_ble_eq_true rfl)
  rw [lg_entry_eq]
  generalize (lg_sl ([.ref h0]) ++ List.replicate (1 - (lg_sl ([.ref h0])).length) Slot.unset).toArray = ls at hl ⊢
  have hl : lv_has ls 1 [(0, .ref h0)] := hl
  generalize ([.ref h0] : List Value).toArray = ar at hG ⊢
  refine wq (fun Q hQ => ?_)
  refine lv_aload_n hx hb dX7_clear_0 rfl (lv_at hl 0 rfl) ?_
  refine lv_iconst (v := 0) hx hb dX7_clear_1 (by decide) ?_
  refine va_put (D := (dC, dI)) (ci := 7) (v := .int 0) (ty := .int) (C := RX7) (T := TX7) (N := 5) hx hb hG inGX7 tyX7 tyX7_ok nmX7 hown hK hP hD hS 0 rfl rfl 0 (by decide) (hG _ wd_47) (fun _ h9 => h9) rfl (by decide +kernel) rfl rfl (Nat.le_of_ble_eq_true rfl) dX7_clear_2 (fun H locs hP hD hS => ?_)
  obtain ⟨hP, hD⟩ := nv_eq (ws' := [(h0, .inr (7, [.int 0, .int x1, .int x2, .int x3, .int x4]))]) hP hD rfl
  refine lv_aload_n hx hb dX7_clear_5 rfl (lv_at hl 0 rfl) ?_
  refine lv_iconst (v := 0) hx hb dX7_clear_6 (by decide) ?_
  refine va_put (D := (dC, dI)) (ci := 7) (v := .int 0) (ty := .int) (C := RX7) (T := TX7) (N := 5) hx hb hG inGX7 tyX7 tyX7_ok nmX7 hown hK hP hD hS 0 rfl rfl 1 (by decide) (hG _ wd_48) (fun _ h9 => h9) rfl (by decide +kernel) rfl rfl (Nat.le_of_ble_eq_true rfl) dX7_clear_7 (fun H locs hP hD hS => ?_)
  obtain ⟨hP, hD⟩ := nv_eq (ws' := [(h0, .inr (7, [.int 0, .int 0, .int x2, .int x3, .int x4]))]) hP hD rfl
  refine lv_aload_n hx hb dX7_clear_10 rfl (lv_at hl 0 rfl) ?_
  refine lv_iconst (v := 0) hx hb dX7_clear_11 (by decide) ?_
  refine va_put (D := (dC, dI)) (ci := 7) (v := .int 0) (ty := .int) (C := RX7) (T := TX7) (N := 5) hx hb hG inGX7 tyX7 tyX7_ok nmX7 hown hK hP hD hS 0 rfl rfl 2 (by decide) (hG _ wd_49) (fun _ h9 => h9) rfl (by decide +kernel) rfl rfl (Nat.le_of_ble_eq_true rfl) dX7_clear_12 (fun H locs hP hD hS => ?_)
  obtain ⟨hP, hD⟩ := nv_eq (ws' := [(h0, .inr (7, [.int 0, .int 0, .int 0, .int x3, .int x4]))]) hP hD rfl
  refine lv_aload_n hx hb dX7_clear_15 rfl (lv_at hl 0 rfl) ?_
  refine lv_iconst (v := 0) hx hb dX7_clear_16 (by decide) ?_
  refine va_put (D := (dC, dI)) (ci := 7) (v := .int 0) (ty := .int) (C := RX7) (T := TX7) (N := 5) hx hb hG inGX7 tyX7 tyX7_ok nmX7 hown hK hP hD hS 0 rfl rfl 3 (by decide) (hG _ wd_50) (fun _ h9 => h9) rfl (by decide +kernel) rfl rfl (Nat.le_of_ble_eq_true rfl) dX7_clear_17 (fun H locs hP hD hS => ?_)
  obtain ⟨hP, hD⟩ := nv_eq (ws' := [(h0, .inr (7, [.int 0, .int 0, .int 0, .int 0, .int x4]))]) hP hD rfl
  refine lv_aload_n hx hb dX7_clear_20 rfl (lv_at hl 0 rfl) ?_
  refine lv_iconst (v := 0) hx hb dX7_clear_21 (by decide) ?_
  refine va_put (D := (dC, dI)) (ci := 7) (v := .int 0) (ty := .int) (C := RX7) (T := TX7) (N := 5) hx hb hG inGX7 tyX7 tyX7_ok nmX7 hown hK hP hD hS 0 rfl rfl 4 (by decide) (hG _ wd_51) (fun _ h9 => h9) rfl (by decide +kernel) rfl rfl (Nat.le_of_ble_eq_true rfl) dX7_clear_22 (fun H locs hP hD hS => ?_)
  obtain ⟨hP, hD⟩ := nv_eq (ws' := [(h0, .inr (7, [.int 0, .int 0, .int 0, .int 0, .int 0]))]) hP hD rfl
  rw [hQ]
  obtain ⟨hP9, hD9⟩ := nv_sub2 (wc := [(h0, .inr (7, [.int 0, .int 0, .int 0, .int 0, .int 0]))]) hP hD [0] (by decide) rfl
  have hK9 := hK.sub (tys' := []) [] rfl
  exact W.vret hx hb hr (fun t ht hW => ⟨⟨(), rfl, trivial, by rw [ht]; exact hP9, va_K.moved hW.alike hK9, hD9⟩, hS.F ht⟩) hS.2.2 dX7_clear_25
set_option maxHeartbeats 100000000 in
set_option maxRecDepth 100000 in
theorem cX5_clear_1 (l : Launch) (dC : Nat → ClassId) (dI : Nat → Nat → Nat) (h0 : Nat) (sz : Nat) (x0 x1 x2 x3 x4 x5 : Int32) : Met l yX5_clear (Cond.code yX5_clear cX5_clear 1 none :: lw_G) ({ frames := 0, cells := 0, slots := 0, locals := 0 }) (va_Pc [.ref h0] (fun U => U.heap.size = sz ∧ va_P (dC, dI) vwCl [(h0, .inr (5, [.int x0, .int x1, .int x2, .int x3, .int x4, .int x5]))] U.heap ∧ va_K (dC, dI) vwCl [] U ∧ va_D (fun _ => True) [(h0, .inr (5, [.int x0, .int x1, .int x2, .int x3, .int x4, .int x5]))])) (va_Qv (fun (u : Unit) => True) (fun (u : Unit) (t : State) => va_P (dC, dI) vwCl [(h0, .inr (5, [.int 304, .int 0, .int 0, .int 0, .int 0, .int 0]))] t.heap ∧ va_K (dC, dI) vwCl [] t ∧ va_D (va_A [(h0, .inr (5, [.int x0, .int x1, .int x2, .int x3, .int x4, .int x5]))] sz) [(h0, .inr (5, [.int 304, .int 0, .int 0, .int 0, .int 0, .int 0]))]) (va_A [(h0, .inr (5, [.int x0, .int x1, .int x2, .int x3, .int x4, .int x5]))] sz)) 0 0 (va_A [(h0, .inr (5, [.int x0, .int x1, .int x2, .int x3, .int x4, .int x5]))] sz) := by
  refine Met.ofW (cc := cX5_clear) (maxL := 1) (ret := none) (by decide) rfl ?_
  intro p e s m args below meth c s₁ B hml hv
  obtain ⟨rfl, hsz, hP, hK, hD0⟩ := hv
  have hx := B.exec
  have hb := B.bytes
  have hr := B.returns
  have hts0 := atoms_spec (ws := Cond.code yX5_clear cX5_clear 1 none :: lw_G) B.pre
  have hG : ∀ w ∈ lw_G, w.before _ s = true := fun w h => hts0 w (List.mem_cons_of_mem _ h)
  have hown : s.vm.findClass RX5 = some m.cls := findClass_of_methodNamed B.named
  have hlocks := B.notSynchronized
  subst hsz
  have hD := hD0.self (sz := s.heap.size)
  generalize hAe : va_A [(h0, .inr (5, [.int x0, .int x1, .int x2, .int x3, .int x4, .int x5]))] s.heap.size = A at hD ⊢
  have hA : ∀ q : Nat, s.heap.size ≤ q → A q := fun q h => by rw [← hAe]; exact Or.inr h
  have hS : va_S A s.heap s.heap [] := va_S.rf
  have hP : va_P (dC, dI) vwCl [(h0, .inr (5, [.int x0, .int x1, .int x2, .int x3, .int x4, .int x5]))] s.heap := hP
  have hl := lv_entry ([.ref h0]) (n := 1) (Nat.le_of_ble_eq_true rfl)
  rw [lg_entry_eq]
  generalize (lg_sl ([.ref h0]) ++ List.replicate (1 - (lg_sl ([.ref h0])).length) Slot.unset).toArray = ls at hl ⊢
  have hl : lv_has ls 1 [(0, .ref h0)] := hl
  generalize ([.ref h0] : List Value).toArray = ar at hG ⊢
  refine wq (fun Q hQ => ?_)
  refine lv_aload_n hx hb dX5_clear_0 rfl (lv_at hl 0 rfl) ?_
  refine lv_sipush (v := 304) hx hb dX5_clear_1 (by decide) ?_
  refine va_put (D := (dC, dI)) (ci := 5) (v := .int 304) (ty := .int) (C := RX5) (T := TX5) (N := 6) hx hb hG inGX5 tyX5 tyX5_ok nmX5 hown hK hP hD hS 0 rfl rfl 0 (by decide) (hG _ wd_70) (fun _ h9 => h9) rfl (by decide +kernel) rfl rfl (Nat.le_of_ble_eq_true rfl) dX5_clear_4 (fun H locs hP hD hS => ?_)
  obtain ⟨hP, hD⟩ := nv_eq (ws' := [(h0, .inr (5, [.int 304, .int x1, .int x2, .int x3, .int x4, .int x5]))]) hP hD rfl
  refine lv_aload_n hx hb dX5_clear_7 rfl (lv_at hl 0 rfl) ?_
  refine lv_iconst (v := 0) hx hb dX5_clear_8 (by decide) ?_
  refine va_put (D := (dC, dI)) (ci := 5) (v := .int 0) (ty := .int) (C := RX5) (T := TX5) (N := 6) hx hb hG inGX5 tyX5 tyX5_ok nmX5 hown hK hP hD hS 0 rfl rfl 1 (by decide) (hG _ wd_71) (fun _ h9 => h9) rfl (by decide +kernel) rfl rfl (Nat.le_of_ble_eq_true rfl) dX5_clear_9 (fun H locs hP hD hS => ?_)
  obtain ⟨hP, hD⟩ := nv_eq (ws' := [(h0, .inr (5, [.int 304, .int 0, .int x2, .int x3, .int x4, .int x5]))]) hP hD rfl
  refine lv_aload_n hx hb dX5_clear_12 rfl (lv_at hl 0 rfl) ?_
  refine lv_iconst (v := 0) hx hb dX5_clear_13 (by decide) ?_
  refine va_put (D := (dC, dI)) (ci := 5) (v := .int 0) (ty := .int) (C := RX5) (T := TX5) (N := 6) hx hb hG inGX5 tyX5 tyX5_ok nmX5 hown hK hP hD hS 0 rfl rfl 2 (by decide) (hG _ wd_72) (fun _ h9 => h9) rfl (by decide +kernel) rfl rfl (Nat.le_of_ble_eq_true rfl) dX5_clear_14 (fun H locs hP hD hS => ?_)
  obtain ⟨hP, hD⟩ := nv_eq (ws' := [(h0, .inr (5, [.int 304, .int 0, .int 0, .int x3, .int x4, .int x5]))]) hP hD rfl
  refine lv_aload_n hx hb dX5_clear_17 rfl (lv_at hl 0 rfl) ?_
  refine lv_iconst (v := 0) hx hb dX5_clear_18 (by decide) ?_
  refine va_put (D := (dC, dI)) (ci := 5) (v := .int 0) (ty := .int) (C := RX5) (T := TX5) (N := 6) hx hb hG inGX5 tyX5 tyX5_ok nmX5 hown hK hP hD hS 0 rfl rfl 3 (by decide) (hG _ wd_73) (fun _ h9 => h9) rfl (by decide +kernel) rfl rfl (Nat.le_of_ble_eq_true rfl) dX5_clear_19 (fun H locs hP hD hS => ?_)
  obtain ⟨hP, hD⟩ := nv_eq (ws' := [(h0, .inr (5, [.int 304, .int 0, .int 0, .int 0, .int x4, .int x5]))]) hP hD rfl
  refine lv_aload_n hx hb dX5_clear_22 rfl (lv_at hl 0 rfl) ?_
  refine lv_iconst (v := 0) hx hb dX5_clear_23 (by decide) ?_
  refine va_put (D := (dC, dI)) (ci := 5) (v := .int 0) (ty := .int) (C := RX5) (T := TX5) (N := 6) hx hb hG inGX5 tyX5 tyX5_ok nmX5 hown hK hP hD hS 0 rfl rfl 4 (by decide) (hG _ wd_74) (fun _ h9 => h9) rfl (by decide +kernel) rfl rfl (Nat.le_of_ble_eq_true rfl) dX5_clear_24 (fun H locs hP hD hS => ?_)
  obtain ⟨hP, hD⟩ := nv_eq (ws' := [(h0, .inr (5, [.int 304, .int 0, .int 0, .int 0, .int 0, .int x5]))]) hP hD rfl
  refine lv_aload_n hx hb dX5_clear_27 rfl (lv_at hl 0 rfl) ?_
  refine lv_iconst (v := 0) hx hb dX5_clear_28 (by decide) ?_
  refine va_put (D := (dC, dI)) (ci := 5) (v := .int 0) (ty := .int) (C := RX5) (T := TX5) (N := 6) hx hb hG inGX5 tyX5 tyX5_ok nmX5 hown hK hP hD hS 0 rfl rfl 5 (by decide) (hG _ wd_75) (fun _ h9 => h9) rfl (by decide +kernel) rfl rfl (Nat.le_of_ble_eq_true rfl) dX5_clear_29 (fun H locs hP hD hS => ?_)
  obtain ⟨hP, hD⟩ := nv_eq (ws' := [(h0, .inr (5, [.int 304, .int 0, .int 0, .int 0, .int 0, .int 0]))]) hP hD rfl
  rw [hQ]
  obtain ⟨hP9, hD9⟩ := nv_sub2 (wc := [(h0, .inr (5, [.int 304, .int 0, .int 0, .int 0, .int 0, .int 0]))]) hP hD [0] (by decide) rfl
  have hK9 := hK.sub (tys' := []) [] rfl
  exact W.vret hx hb hr (fun t ht hW => ⟨⟨(), rfl, trivial, by rw [ht]; exact hP9, va_K.moved hW.alike hK9, hD9⟩, hS.F ht⟩) hS.2.2 dX5_clear_32
set_option maxHeartbeats 100000000 in
set_option maxRecDepth 100000 in
theorem cX9_clear_1 (l : Launch) (dC : Nat → ClassId) (dI : Nat → Nat → Nat) (h0 h1 h2 : Nat) (y0 y1 : ClassId) (sz : Nat) (x0 x1 x2 x3 : Int32) (f0 f1 : Nat → Int32) (ix3 : iv x3 0 1) : Met l yX9_clear (Cond.code yX9_clear cX9_clear 2 none :: lw_G) ({ frames := 1, cells := 0, slots := 0, locals := 20 }) (va_Pc [.ref h0] (fun U => U.heap.size = sz ∧ va_P (dC, dI) vwCl [(h0, .inr (9, [.ref h1, .ref h2, .int x0, .int x1, .int x2, .int x3])), (h1, .inl (y0, 3, .inl f0)), (h2, .inl (y1, 3, .inl f1))] U.heap ∧ va_K (dC, dI) vwCl [(y0, .int), (y1, .int)] U ∧ va_D (fun _ => True) [(h0, .inr (9, [.ref h1, .ref h2, .int x0, .int x1, .int x2, .int x3])), (h1, .inl (y0, 3, .inl f0)), (h2, .inl (y1, 3, .inl f1))])) (va_Qv (fun (u : (Nat → Int32) × (Nat → Int32)) => u.1 0 = 0 ∧ u.1 1 = 0 ∧ u.1 2 = 0 ∧ u.2 0 = 0 ∧ u.2 1 = 0 ∧ u.2 2 = 0 ∧ True) (fun (u : (Nat → Int32) × (Nat → Int32)) (t : State) => va_P (dC, dI) vwCl [(h0, .inr (9, [.ref h1, .ref h2, .int 0, .int 0, .int 0, .int 0])), (h1, .inl (y0, 3, .inl u.1)), (h2, .inl (y1, 3, .inl u.2))] t.heap ∧ va_K (dC, dI) vwCl [(y0, .int), (y1, .int)] t ∧ va_D (va_A [(h0, .inr (9, [.ref h1, .ref h2, .int x0, .int x1, .int x2, .int x3])), (h1, .inl (y0, 3, .inl f0)), (h2, .inl (y1, 3, .inl f1))] sz) [(h0, .inr (9, [.ref h1, .ref h2, .int 0, .int 0, .int 0, .int 0])), (h1, .inl (y0, 3, .inl u.1)), (h2, .inl (y1, 3, .inl u.2))]) (va_A [(h0, .inr (9, [.ref h1, .ref h2, .int x0, .int x1, .int x2, .int x3])), (h1, .inl (y0, 3, .inl f0)), (h2, .inl (y1, 3, .inl f1))] sz)) 0 0 (va_A [(h0, .inr (9, [.ref h1, .ref h2, .int x0, .int x1, .int x2, .int x3])), (h1, .inl (y0, 3, .inl f0)), (h2, .inl (y1, 3, .inl f1))] sz) := by
  refine Met.ofW (cc := cX9_clear) (maxL := 2) (ret := none) (by decide) rfl ?_
  intro p e s m args below meth c s₁ B hml hv
  obtain ⟨rfl, hsz, hP, hK, hD0⟩ := hv
  have hx := B.exec
  have hb := B.bytes
  have hr := B.returns
  have hts0 := atoms_spec (ws := Cond.code yX9_clear cX9_clear 2 none :: lw_G) B.pre
  have hG : ∀ w ∈ lw_G, w.before _ s = true := fun w h => hts0 w (List.mem_cons_of_mem _ h)
  have hown : s.vm.findClass RX9 = some m.cls := findClass_of_methodNamed B.named
  have hlocks := B.notSynchronized
  subst hsz
  have hD := hD0.self (sz := s.heap.size)
  generalize hAe : va_A [(h0, .inr (9, [.ref h1, .ref h2, .int x0, .int x1, .int x2, .int x3])), (h1, .inl (y0, 3, .inl f0)), (h2, .inl (y1, 3, .inl f1))] s.heap.size = A at hD ⊢
  have hA : ∀ q : Nat, s.heap.size ≤ q → A q := fun q h => by rw [← hAe]; exact Or.inr h
  have hS : va_S A s.heap s.heap [] := va_S.rf
  have hP : va_P (dC, dI) vwCl [(h0, .inr (9, [.ref h1, .ref h2, .int x0, .int x1, .int x2, .int x3])), (h1, .inl (y0, 3, .inl f0)), (h2, .inl (y1, 3, .inl f1))] s.heap := hP
  have hl := lv_entry ([.ref h0]) (n := 2) (Nat.le_of_ble_eq_true rfl)
  rw [lg_entry_eq]
  generalize (lg_sl ([.ref h0]) ++ List.replicate (2 - (lg_sl ([.ref h0])).length) Slot.unset).toArray = ls at hl ⊢
  have hl : lv_has ls 2 [(0, .ref h0)] := hl
  generalize ([.ref h0] : List Value).toArray = ar at hG ⊢
  refine wq (fun Q hQ => ?_)
  refine lv_iconst (v := 0) hx hb dX9_clear_0 (by decide) ?_
  refine lv_istore_n (lv' := [(1, .int 0), (0, .ref h0)]) hx hb dX9_clear_1 rfl hl (by decide) rfl (fun ls hl => ?_)
  refine lv_iload_n hx hb dX9_clear_2 rfl (lv_at hl 0 rfl) ?_
  refine lv_iconst (v := 3) hx hb dX9_clear_3 (by decide) ?_
  refine lv_icmp_ge (tgt := 27) hx hb dX9_clear_4 (by decide) (fun c => absurd c (by decide)) (fun _ => ?_)
  refine lv_aload_n hx hb dX9_clear_7 rfl (lv_at hl 1 rfl) ?_
  refine va_get (D := (dC, dI)) (ci := 9) (v := .ref h1) (C := RX9) (T := TX9) (N := 6) hx hb hG inGX9 hown hK hP 0 rfl rfl 0 (by decide) (hG _ wd_95) (fun _ h9 => h9) rfl dX9_clear_8 ?_
  refine lv_iload_n hx hb dX9_clear_11 rfl (lv_at hl 0 rfl) ?_
  refine lv_iconst (v := 0) hx hb dX9_clear_12 (by decide) ?_
  refine va_iast hx hb hK hP hD hS 1 0 rfl rfl (iv_in (by decide : iv 0 0 0) (by decide) (by decide) : vp_in 0 3) dX9_clear_13 (fun H locs hP hD hS => ?_)
  obtain ⟨nf1, enf1⟩ : ∃ z, z = upd f0 (0 : Int32).toNatClampNeg 0 := ⟨_, rfl⟩
  obtain ⟨hP, hD⟩ := nv_eq (ws' := [(h0, .inr (9, [.ref h1, .ref h2, .int x0, .int x1, .int x2, .int x3])), (h1, .inl (y0, 3, .inl nf1)), (h2, .inl (y1, 3, .inl f1))]) hP hD (by subst enf1; rfl)
  refine lv_aload_n hx hb dX9_clear_14 rfl (lv_at hl 1 rfl) ?_
  refine va_get (D := (dC, dI)) (ci := 9) (v := .ref h2) (C := RX9) (T := TX9) (N := 6) hx hb hG inGX9 hown hK hP 0 rfl rfl 1 (by decide) (hG _ wd_96) (fun _ h9 => h9) rfl dX9_clear_15 ?_
  refine lv_iload_n hx hb dX9_clear_18 rfl (lv_at hl 0 rfl) ?_
  refine lv_iconst (v := 0) hx hb dX9_clear_19 (by decide) ?_
  refine va_iast hx hb hK hP hD hS 2 1 rfl rfl (iv_in (by decide : iv 0 0 0) (by decide) (by decide) : vp_in 0 3) dX9_clear_20 (fun H locs hP hD hS => ?_)
  obtain ⟨nf2, enf2⟩ : ∃ z, z = upd f1 (0 : Int32).toNatClampNeg 0 := ⟨_, rfl⟩
  obtain ⟨hP, hD⟩ := nv_eq (ws' := [(h0, .inr (9, [.ref h1, .ref h2, .int x0, .int x1, .int x2, .int x3])), (h1, .inl (y0, 3, .inl nf1)), (h2, .inl (y1, 3, .inl nf2))]) hP hD (by subst enf2; rfl)
  refine lv_iinc (v := 1) (lv' := [(1, .int 1), (0, .ref h0)]) hx hb dX9_clear_21 hl (k := 0) rfl (by decide) (by decide) rfl (fun ls hl => ?_)
  refine lv_goto (tgt := 2) hx hb dX9_clear_24 (by decide) ?_
  refine lv_iload_n hx hb dX9_clear_2 rfl (lv_at hl 0 rfl) ?_
  refine lv_iconst (v := 3) hx hb dX9_clear_3 (by decide) ?_
  refine lv_icmp_ge (tgt := 27) hx hb dX9_clear_4 (by decide) (fun c => absurd c (by decide)) (fun _ => ?_)
  refine lv_aload_n hx hb dX9_clear_7 rfl (lv_at hl 1 rfl) ?_
  refine va_get (D := (dC, dI)) (ci := 9) (v := .ref h1) (C := RX9) (T := TX9) (N := 6) hx hb hG inGX9 hown hK hP 0 rfl rfl 0 (by decide) (hG _ wd_95) (fun _ h9 => h9) rfl dX9_clear_8 ?_
  refine lv_iload_n hx hb dX9_clear_11 rfl (lv_at hl 0 rfl) ?_
  refine lv_iconst (v := 0) hx hb dX9_clear_12 (by decide) ?_
  refine va_iast hx hb hK hP hD hS 1 0 rfl rfl (iv_in (by decide : iv 1 1 1) (by decide) (by decide) : vp_in 1 3) dX9_clear_13 (fun H locs hP hD hS => ?_)
  obtain ⟨nf3, enf3⟩ : ∃ z, z = upd nf1 (1 : Int32).toNatClampNeg 0 := ⟨_, rfl⟩
  obtain ⟨hP, hD⟩ := nv_eq (ws' := [(h0, .inr (9, [.ref h1, .ref h2, .int x0, .int x1, .int x2, .int x3])), (h1, .inl (y0, 3, .inl nf3)), (h2, .inl (y1, 3, .inl nf2))]) hP hD (by subst enf3; rfl)
  refine lv_aload_n hx hb dX9_clear_14 rfl (lv_at hl 1 rfl) ?_
  refine va_get (D := (dC, dI)) (ci := 9) (v := .ref h2) (C := RX9) (T := TX9) (N := 6) hx hb hG inGX9 hown hK hP 0 rfl rfl 1 (by decide) (hG _ wd_96) (fun _ h9 => h9) rfl dX9_clear_15 ?_
  refine lv_iload_n hx hb dX9_clear_18 rfl (lv_at hl 0 rfl) ?_
  refine lv_iconst (v := 0) hx hb dX9_clear_19 (by decide) ?_
  refine va_iast hx hb hK hP hD hS 2 1 rfl rfl (iv_in (by decide : iv 1 1 1) (by decide) (by decide) : vp_in 1 3) dX9_clear_20 (fun H locs hP hD hS => ?_)
  obtain ⟨nf4, enf4⟩ : ∃ z, z = upd nf2 (1 : Int32).toNatClampNeg 0 := ⟨_, rfl⟩
  obtain ⟨hP, hD⟩ := nv_eq (ws' := [(h0, .inr (9, [.ref h1, .ref h2, .int x0, .int x1, .int x2, .int x3])), (h1, .inl (y0, 3, .inl nf3)), (h2, .inl (y1, 3, .inl nf4))]) hP hD (by subst enf4; rfl)
  refine lv_iinc (v := 2) (lv' := [(1, .int 2), (0, .ref h0)]) hx hb dX9_clear_21 hl (k := 0) rfl (by decide) (by decide) rfl (fun ls hl => ?_)
  refine lv_goto (tgt := 2) hx hb dX9_clear_24 (by decide) ?_
  refine lv_iload_n hx hb dX9_clear_2 rfl (lv_at hl 0 rfl) ?_
  refine lv_iconst (v := 3) hx hb dX9_clear_3 (by decide) ?_
  refine lv_icmp_ge (tgt := 27) hx hb dX9_clear_4 (by decide) (fun c => absurd c (by decide)) (fun _ => ?_)
  refine lv_aload_n hx hb dX9_clear_7 rfl (lv_at hl 1 rfl) ?_
  refine va_get (D := (dC, dI)) (ci := 9) (v := .ref h1) (C := RX9) (T := TX9) (N := 6) hx hb hG inGX9 hown hK hP 0 rfl rfl 0 (by decide) (hG _ wd_95) (fun _ h9 => h9) rfl dX9_clear_8 ?_
  refine lv_iload_n hx hb dX9_clear_11 rfl (lv_at hl 0 rfl) ?_
  refine lv_iconst (v := 0) hx hb dX9_clear_12 (by decide) ?_
  refine va_iast hx hb hK hP hD hS 1 0 rfl rfl (iv_in (by decide : iv 2 2 2) (by decide) (by decide) : vp_in 2 3) dX9_clear_13 (fun H locs hP hD hS => ?_)
  obtain ⟨nf5, enf5⟩ : ∃ z, z = upd nf3 (2 : Int32).toNatClampNeg 0 := ⟨_, rfl⟩
  obtain ⟨hP, hD⟩ := nv_eq (ws' := [(h0, .inr (9, [.ref h1, .ref h2, .int x0, .int x1, .int x2, .int x3])), (h1, .inl (y0, 3, .inl nf5)), (h2, .inl (y1, 3, .inl nf4))]) hP hD (by subst enf5; rfl)
  refine lv_aload_n hx hb dX9_clear_14 rfl (lv_at hl 1 rfl) ?_
  refine va_get (D := (dC, dI)) (ci := 9) (v := .ref h2) (C := RX9) (T := TX9) (N := 6) hx hb hG inGX9 hown hK hP 0 rfl rfl 1 (by decide) (hG _ wd_96) (fun _ h9 => h9) rfl dX9_clear_15 ?_
  refine lv_iload_n hx hb dX9_clear_18 rfl (lv_at hl 0 rfl) ?_
  refine lv_iconst (v := 0) hx hb dX9_clear_19 (by decide) ?_
  refine va_iast hx hb hK hP hD hS 2 1 rfl rfl (iv_in (by decide : iv 2 2 2) (by decide) (by decide) : vp_in 2 3) dX9_clear_20 (fun H locs hP hD hS => ?_)
  obtain ⟨nf6, enf6⟩ : ∃ z, z = upd nf4 (2 : Int32).toNatClampNeg 0 := ⟨_, rfl⟩
  obtain ⟨hP, hD⟩ := nv_eq (ws' := [(h0, .inr (9, [.ref h1, .ref h2, .int x0, .int x1, .int x2, .int x3])), (h1, .inl (y0, 3, .inl nf5)), (h2, .inl (y1, 3, .inl nf6))]) hP hD (by subst enf6; rfl)
  refine lv_iinc (v := 3) (lv' := [(1, .int 3), (0, .ref h0)]) hx hb dX9_clear_21 hl (k := 0) rfl (by decide) (by decide) rfl (fun ls hl => ?_)
  refine lv_goto (tgt := 2) hx hb dX9_clear_24 (by decide) ?_
  refine lv_iload_n hx hb dX9_clear_2 rfl (lv_at hl 0 rfl) ?_
  refine lv_iconst (v := 3) hx hb dX9_clear_3 (by decide) ?_
  refine lv_icmp_ge (tgt := 27) hx hb dX9_clear_4 (by decide) (fun _ => ?_) (fun c => absurd (by decide) c)
  refine lv_aload_n hx hb dX9_clear_27 rfl (lv_at hl 1 rfl) ?_
  refine lv_iconst (v := 0) hx hb dX9_clear_28 (by decide) ?_
  refine va_put (D := (dC, dI)) (ci := 9) (v := .int 0) (ty := .int) (C := RX9) (T := TX9) (N := 6) hx hb hG inGX9 tyX9 tyX9_ok nmX9 hown hK hP hD hS 0 rfl rfl 2 (by decide) (hG _ wd_97) (fun _ h9 => h9) rfl (by decide +kernel) rfl rfl (Nat.le_of_ble_eq_true rfl) dX9_clear_29 (fun H locs hP hD hS => ?_)
  obtain ⟨hP, hD⟩ := nv_eq (ws' := [(h0, .inr (9, [.ref h1, .ref h2, .int 0, .int x1, .int x2, .int x3])), (h1, .inl (y0, 3, .inl nf5)), (h2, .inl (y1, 3, .inl nf6))]) hP hD rfl
  refine lv_aload_n hx hb dX9_clear_32 rfl (lv_at hl 1 rfl) ?_
  obtain ⟨hPc, hDc, hFc⟩ := nv_sub3 (wc := [(h0, .inr (9, [.ref h1, .ref h2, .int 0, .int x1, .int x2, .int x3]))]) hP hD hS hA [0] (by decide) rfl
  have hKc := hK.sub (tys' := []) [] rfl
  refine va_callv (va_runV (As := []) (rest := []) ⟨hx, hb, hml, hown, hG⟩ (cX9_startAnew_1 l dC dI h0 h1 h2 H.size 0 x1 x2 x3 ix3) (cwV 0 hG (gV wd_764 wd_766 wp_30 wd_5 wd_767) rfl rfl rfl (by decide +kernel) ⟨Nat.le_of_ble_eq_true rfl, Nat.le_of_ble_eq_true rfl⟩) ⟨fun a U g mk q => by obtain ⟨q0, q1, qP, qK, qD⟩ := q; exact ⟨q0, q1, qP, va_K.moved (u := U) (U := U.calling g mk a) (Vm.Alike.refl U.vm) qK, qD⟩, va_recv hKc hPc (ci := 9) (q0 := 0) rfl rfl, fun U hU hW => ⟨rfl, by rw [hU], by rw [hU]; exact hPc, va_K.moved hW.alike hKc, hDc.weaken (fun _ _ _ _ => trivial)⟩⟩ rfl rfl hl.1 rfl (lv_room (Nat.le_of_ble_eq_true rfl)) dX9_clear_33 ⟨by decide, by decide⟩) hS (fun q _ h => hFc q h) hFc (fun u8 t H1 locs ht hvm hw hB hz1 hk1 hS => ?_)
  obtain ⟨hP1, hK1, hD1⟩ := hB
  rw [ht] at hP1
  have hK1 := va_K.moved hvm.symm hK1
  obtain ⟨hP, hD⟩ := nv_join (wf := [(h1, .inl (y0, 3, .inl nf5)), (h2, .inl (y1, 3, .inl nf6)), (h0, .inr (9, [.ref h1, .ref h2, .int 0, .int 0, .int 0, .int 0]))]) hP hD [0] [1, 2] rfl rfl (by decide) (by decide) hk1 hFc hP1 hD1 rfl
  have hK := (hK.sub (tys' := [(y0, .int), (y1, .int)]) [0, 1] rfl).app hK1
  generalize H1 = H at hP hS ⊢
  have hK : va_K (dC, dI) vwCl [(y0, .int), (y1, .int)] s := hK
  rw [hQ]
  obtain ⟨hP9, hD9⟩ := nv_sub2 (wc := [(h0, .inr (9, [.ref h1, .ref h2, .int 0, .int 0, .int 0, .int 0])), (h1, .inl (y0, 3, .inl nf5)), (h2, .inl (y1, 3, .inl nf6))]) hP hD [2, 0, 1] (by decide) rfl
  have hK9 := hK.sub (tys' := [(y0, .int), (y1, .int)]) [0, 1] rfl
  exact W.vret hx hb hr (fun t ht hW => ⟨⟨(nf5, nf6), rfl, ⟨(kn enf5 (Nat.ne_of_beq_eq_false rfl) (kn enf3 (Nat.ne_of_beq_eq_false rfl) (ku enf1 rfl))), (kn enf5 (Nat.ne_of_beq_eq_false rfl) (ku enf3 rfl)), (ku enf5 rfl), (kn enf6 (Nat.ne_of_beq_eq_false rfl) (kn enf4 (Nat.ne_of_beq_eq_false rfl) (ku enf2 rfl))), (kn enf6 (Nat.ne_of_beq_eq_false rfl) (ku enf4 rfl)), (ku enf6 rfl), trivial⟩, by rw [ht]; exact hP9, va_K.moved hW.alike hK9, hD9⟩, hS.F ht⟩) hS.2.2 dX9_clear_36
set_option maxHeartbeats 100000000 in
set_option maxRecDepth 100000 in
theorem cX1_clearThings_1 (l : Launch) (dC : Nat → ClassId) (dI : Nat → Nat → Nat) (h0 h1 h2 h3 h4 h5 h6 : Nat) (y0 y1 : ClassId) (sz : Nat) (x0 x1 x2 x3 x4 x5 x6 x7 x8 x9 x10 x11 x12 x13 x14 : Int32) (f0 f1 : Nat → Int32) (ix14 : iv x14 0 1) : Met l yX1_clearThings (Cond.code yX1_clearThings cX1_clearThings 1 none :: lw_G) ({ frames := 2, cells := 0, slots := 0, locals := 41 }) (va_Pc [.ref h0] (fun U => U.heap.size = sz ∧ va_P (dC, dI) vwCl [(h0, .inr (1, [.ref h1, .ref h2, .ref h3, .ref h4])), (h2, .inr (7, [.int x0, .int x1, .int x2, .int x3, .int x4])), (h3, .inr (5, [.int x5, .int x6, .int x7, .int x8, .int x9, .int x10])), (h4, .inr (9, [.ref h5, .ref h6, .int x11, .int x12, .int x13, .int x14])), (h5, .inl (y0, 3, .inl f0)), (h6, .inl (y1, 3, .inl f1))] U.heap ∧ va_K (dC, dI) vwCl [(y0, .int), (y1, .int)] U ∧ va_D (fun _ => True) [(h0, .inr (1, [.ref h1, .ref h2, .ref h3, .ref h4])), (h2, .inr (7, [.int x0, .int x1, .int x2, .int x3, .int x4])), (h3, .inr (5, [.int x5, .int x6, .int x7, .int x8, .int x9, .int x10])), (h4, .inr (9, [.ref h5, .ref h6, .int x11, .int x12, .int x13, .int x14])), (h5, .inl (y0, 3, .inl f0)), (h6, .inl (y1, 3, .inl f1))])) (va_Qv (fun (u : (Nat → Int32) × (Nat → Int32)) => u.1 0 = 0 ∧ u.1 1 = 0 ∧ u.1 2 = 0 ∧ u.2 0 = 0 ∧ u.2 1 = 0 ∧ u.2 2 = 0 ∧ True) (fun (u : (Nat → Int32) × (Nat → Int32)) (t : State) => va_P (dC, dI) vwCl [(h0, .inr (1, [.ref h1, .ref h2, .ref h3, .ref h4])), (h2, .inr (7, [.int 0, .int 0, .int 0, .int 0, .int 0])), (h3, .inr (5, [.int 304, .int 0, .int 0, .int 0, .int 0, .int 0])), (h4, .inr (9, [.ref h5, .ref h6, .int 0, .int 0, .int 0, .int 0])), (h5, .inl (y0, 3, .inl u.1)), (h6, .inl (y1, 3, .inl u.2))] t.heap ∧ va_K (dC, dI) vwCl [(y0, .int), (y1, .int)] t ∧ va_D (va_A [(h0, .inr (1, [.ref h1, .ref h2, .ref h3, .ref h4])), (h2, .inr (7, [.int x0, .int x1, .int x2, .int x3, .int x4])), (h3, .inr (5, [.int x5, .int x6, .int x7, .int x8, .int x9, .int x10])), (h4, .inr (9, [.ref h5, .ref h6, .int x11, .int x12, .int x13, .int x14])), (h5, .inl (y0, 3, .inl f0)), (h6, .inl (y1, 3, .inl f1))] sz) [(h0, .inr (1, [.ref h1, .ref h2, .ref h3, .ref h4])), (h2, .inr (7, [.int 0, .int 0, .int 0, .int 0, .int 0])), (h3, .inr (5, [.int 304, .int 0, .int 0, .int 0, .int 0, .int 0])), (h4, .inr (9, [.ref h5, .ref h6, .int 0, .int 0, .int 0, .int 0])), (h5, .inl (y0, 3, .inl u.1)), (h6, .inl (y1, 3, .inl u.2))]) (va_A [(h0, .inr (1, [.ref h1, .ref h2, .ref h3, .ref h4])), (h2, .inr (7, [.int x0, .int x1, .int x2, .int x3, .int x4])), (h3, .inr (5, [.int x5, .int x6, .int x7, .int x8, .int x9, .int x10])), (h4, .inr (9, [.ref h5, .ref h6, .int x11, .int x12, .int x13, .int x14])), (h5, .inl (y0, 3, .inl f0)), (h6, .inl (y1, 3, .inl f1))] sz)) 0 0 (va_A [(h0, .inr (1, [.ref h1, .ref h2, .ref h3, .ref h4])), (h2, .inr (7, [.int x0, .int x1, .int x2, .int x3, .int x4])), (h3, .inr (5, [.int x5, .int x6, .int x7, .int x8, .int x9, .int x10])), (h4, .inr (9, [.ref h5, .ref h6, .int x11, .int x12, .int x13, .int x14])), (h5, .inl (y0, 3, .inl f0)), (h6, .inl (y1, 3, .inl f1))] sz) := by
  refine Met.ofW (cc := cX1_clearThings) (maxL := 1) (ret := none) (by decide) rfl ?_
  intro p e s m args below meth c s₁ B hml hv
  obtain ⟨rfl, hsz, hP, hK, hD0⟩ := hv
  have hx := B.exec
  have hb := B.bytes
  have hr := B.returns
  have hts0 := atoms_spec (ws := Cond.code yX1_clearThings cX1_clearThings 1 none :: lw_G) B.pre
  have hG : ∀ w ∈ lw_G, w.before _ s = true := fun w h => hts0 w (List.mem_cons_of_mem _ h)
  have hown : s.vm.findClass RX1 = some m.cls := findClass_of_methodNamed B.named
  have hlocks := B.notSynchronized
  subst hsz
  have hD := hD0.self (sz := s.heap.size)
  generalize hAe : va_A [(h0, .inr (1, [.ref h1, .ref h2, .ref h3, .ref h4])), (h2, .inr (7, [.int x0, .int x1, .int x2, .int x3, .int x4])), (h3, .inr (5, [.int x5, .int x6, .int x7, .int x8, .int x9, .int x10])), (h4, .inr (9, [.ref h5, .ref h6, .int x11, .int x12, .int x13, .int x14])), (h5, .inl (y0, 3, .inl f0)), (h6, .inl (y1, 3, .inl f1))] s.heap.size = A at hD ⊢
  have hA : ∀ q : Nat, s.heap.size ≤ q → A q := fun q h => by rw [← hAe]; exact Or.inr h
  have hS : va_S A s.heap s.heap [] := va_S.rf
  have hP : va_P (dC, dI) vwCl [(h0, .inr (1, [.ref h1, .ref h2, .ref h3, .ref h4])), (h2, .inr (7, [.int x0, .int x1, .int x2, .int x3, .int x4])), (h3, .inr (5, [.int x5, .int x6, .int x7, .int x8, .int x9, .int x10])), (h4, .inr (9, [.ref h5, .ref h6, .int x11, .int x12, .int x13, .int x14])), (h5, .inl (y0, 3, .inl f0)), (h6, .inl (y1, 3, .inl f1))] s.heap := hP
  have hl := lv_entry ([.ref h0]) (n := 1) (Nat.le_of_ble_eq_true rfl)
  rw [lg_entry_eq]
  generalize (lg_sl ([.ref h0]) ++ List.replicate (1 - (lg_sl ([.ref h0])).length) Slot.unset).toArray = ls at hl ⊢
  have hl : lv_has ls 1 [(0, .ref h0)] := hl
  generalize ([.ref h0] : List Value).toArray = ar at hG ⊢
  refine wq (fun Q hQ => ?_)
  refine lv_aload_n hx hb dX1_clearThings_0 rfl (lv_at hl 0 rfl) ?_
  refine va_get (D := (dC, dI)) (ci := 1) (v := .ref h2) (C := RX1) (T := TX1) (N := 4) hx hb hG inGX1 hown hK hP 0 rfl rfl 1 (by decide) (hG _ wd_115) (fun _ h9 => h9) rfl dX1_clearThings_1 ?_
  obtain ⟨hPc, hDc, hFc⟩ := nv_sub3 (wc := [(h2, .inr (7, [.int x0, .int x1, .int x2, .int x3, .int x4]))]) hP hD hS hA [1] (by decide) rfl
  have hKc := hK.sub (tys' := []) [] rfl
  refine va_callv (va_runV (As := []) (rest := []) ⟨hx, hb, hml, hown, hG⟩ (cX7_clear_1 l dC dI h2 s.heap.size x0 x1 x2 x3 x4) (cwV 0 hG (gV wd_800 wd_801 wd_802 wd_3 wd_803) rfl rfl rfl (by decide +kernel) ⟨Nat.le_of_ble_eq_true rfl, Nat.le_of_ble_eq_true rfl⟩) ⟨fun a U g mk q => by obtain ⟨q0, q1, qP, qK, qD⟩ := q; exact ⟨q0, q1, qP, va_K.moved (u := U) (U := U.calling g mk a) (Vm.Alike.refl U.vm) qK, qD⟩, va_recv hKc hPc (ci := 7) (q0 := 0) rfl rfl, fun U hU hW => ⟨rfl, by rw [hU], by rw [hU]; exact hPc, va_K.moved hW.alike hKc, hDc.weaken (fun _ _ _ _ => trivial)⟩⟩ rfl rfl hl.1 rfl (lv_room (Nat.le_of_ble_eq_true rfl)) dX1_clearThings_4 ⟨by decide, by decide⟩) hS (fun q _ h => hFc q h) hFc (fun u2 t H1 locs ht hvm hw hB hz1 hk1 hS => ?_)
  obtain ⟨hP1, hK1, hD1⟩ := hB
  rw [ht] at hP1
  have hK1 := va_K.moved hvm.symm hK1
  obtain ⟨hP, hD⟩ := nv_join (wf := [(h0, .inr (1, [.ref h1, .ref h2, .ref h3, .ref h4])), (h3, .inr (5, [.int x5, .int x6, .int x7, .int x8, .int x9, .int x10])), (h4, .inr (9, [.ref h5, .ref h6, .int x11, .int x12, .int x13, .int x14])), (h5, .inl (y0, 3, .inl f0)), (h6, .inl (y1, 3, .inl f1)), (h2, .inr (7, [.int 0, .int 0, .int 0, .int 0, .int 0]))]) hP hD [1] [0, 2, 3, 4, 5] rfl rfl (by decide) (by decide) hk1 hFc hP1 hD1 rfl
  have hK := (hK.sub (tys' := [(y0, .int), (y1, .int)]) [0, 1] rfl).app hK1
  generalize H1 = H at hP hS ⊢
  have hK : va_K (dC, dI) vwCl [(y0, .int), (y1, .int)] s := hK
  refine lv_aload_n hx hb dX1_clearThings_7 rfl (lv_at hl 0 rfl) ?_
  refine va_get (D := (dC, dI)) (ci := 1) (v := .ref h3) (C := RX1) (T := TX1) (N := 4) hx hb hG inGX1 hown hK hP 0 rfl rfl 2 (by decide) (hG _ wd_116) (fun _ h9 => h9) rfl dX1_clearThings_8 ?_
  obtain ⟨hPc, hDc, hFc⟩ := nv_sub3 (wc := [(h3, .inr (5, [.int x5, .int x6, .int x7, .int x8, .int x9, .int x10]))]) hP hD hS hA [1] (by decide) rfl
  have hKc := hK.sub (tys' := []) [] rfl
  refine va_callv (va_runV (As := []) (rest := []) ⟨hx, hb, hml, hown, hG⟩ (cX5_clear_1 l dC dI h3 H.size x5 x6 x7 x8 x9 x10) (cwV 0 hG (gV wd_804 wd_805 wd_806 wd_4 wd_807) rfl rfl rfl (by decide +kernel) ⟨Nat.le_of_ble_eq_true rfl, Nat.le_of_ble_eq_true rfl⟩) ⟨fun a U g mk q => by obtain ⟨q0, q1, qP, qK, qD⟩ := q; exact ⟨q0, q1, qP, va_K.moved (u := U) (U := U.calling g mk a) (Vm.Alike.refl U.vm) qK, qD⟩, va_recv hKc hPc (ci := 5) (q0 := 0) rfl rfl, fun U hU hW => ⟨rfl, by rw [hU], by rw [hU]; exact hPc, va_K.moved hW.alike hKc, hDc.weaken (fun _ _ _ _ => trivial)⟩⟩ rfl rfl hl.1 rfl (lv_room (Nat.le_of_ble_eq_true rfl)) dX1_clearThings_11 ⟨by decide, by decide⟩) hS (fun q _ h => hFc q h) hFc (fun u4 t H1 locs ht hvm hw hB hz1 hk1 hS => ?_)
  obtain ⟨hP1, hK1, hD1⟩ := hB
  rw [ht] at hP1
  have hK1 := va_K.moved hvm.symm hK1
  obtain ⟨hP, hD⟩ := nv_join (wf := [(h0, .inr (1, [.ref h1, .ref h2, .ref h3, .ref h4])), (h4, .inr (9, [.ref h5, .ref h6, .int x11, .int x12, .int x13, .int x14])), (h5, .inl (y0, 3, .inl f0)), (h6, .inl (y1, 3, .inl f1)), (h2, .inr (7, [.int 0, .int 0, .int 0, .int 0, .int 0])), (h3, .inr (5, [.int 304, .int 0, .int 0, .int 0, .int 0, .int 0]))]) hP hD [1] [0, 2, 3, 4, 5] rfl rfl (by decide) (by decide) hk1 hFc hP1 hD1 rfl
  have hK := (hK.sub (tys' := [(y0, .int), (y1, .int)]) [0, 1] rfl).app hK1
  generalize H1 = H at hP hS ⊢
  have hK : va_K (dC, dI) vwCl [(y0, .int), (y1, .int)] s := hK
  refine lv_aload_n hx hb dX1_clearThings_14 rfl (lv_at hl 0 rfl) ?_
  refine va_get (D := (dC, dI)) (ci := 1) (v := .ref h4) (C := RX1) (T := TX1) (N := 4) hx hb hG inGX1 hown hK hP 0 rfl rfl 3 (by decide) (hG _ wd_117) (fun _ h9 => h9) rfl dX1_clearThings_15 ?_
  obtain ⟨hPc, hDc, hFc⟩ := nv_sub3 (wc := [(h4, .inr (9, [.ref h5, .ref h6, .int x11, .int x12, .int x13, .int x14])), (h5, .inl (y0, 3, .inl f0)), (h6, .inl (y1, 3, .inl f1))]) hP hD hS hA [1, 2, 3] (by decide) rfl
  have hKc := hK.sub (tys' := [(y0, .int), (y1, .int)]) [0, 1] rfl
  refine va_callv (va_runV (As := []) (rest := []) ⟨hx, hb, hml, hown, hG⟩ (cX9_clear_1 l dC dI h4 h5 h6 y0 y1 H.size x11 x12 x13 x14 f0 f1 ix14) (cwV 0 hG (gV wd_808 wd_809 wd_810 wd_5 wd_811) rfl rfl rfl (by decide +kernel) ⟨Nat.le_of_ble_eq_true rfl, Nat.le_of_ble_eq_true rfl⟩) ⟨fun a U g mk q => by obtain ⟨q0, q1, qP, qK, qD⟩ := q; exact ⟨q0, q1, qP, va_K.moved (u := U) (U := U.calling g mk a) (Vm.Alike.refl U.vm) qK, qD⟩, va_recv hKc hPc (ci := 9) (q0 := 0) rfl rfl, fun U hU hW => ⟨rfl, by rw [hU], by rw [hU]; exact hPc, va_K.moved hW.alike hKc, hDc.weaken (fun _ _ _ _ => trivial)⟩⟩ rfl rfl hl.1 rfl (lv_room (Nat.le_of_ble_eq_true rfl)) dX1_clearThings_18 ⟨by decide, by decide⟩) hS (fun q _ h => hFc q h) hFc (fun u6 t H1 locs ht hvm hw hB hz1 hk1 hS => ?_)
  obtain ⟨u6_0, u6_1⟩ := u6
  have hw : u6_0 0 = 0 ∧ u6_0 1 = 0 ∧ u6_0 2 = 0 ∧ u6_1 0 = 0 ∧ u6_1 1 = 0 ∧ u6_1 2 = 0 ∧ True := hw
  obtain ⟨ku6_0_0, ku6_0_1, ku6_0_2, ku6_1_0, ku6_1_1, ku6_1_2, -⟩ := hw
  obtain ⟨hP1, hK1, hD1⟩ := hB
  rw [ht] at hP1
  have hK1 := va_K.moved hvm.symm hK1
  obtain ⟨hP, hD⟩ := nv_join (wf := [(h0, .inr (1, [.ref h1, .ref h2, .ref h3, .ref h4])), (h2, .inr (7, [.int 0, .int 0, .int 0, .int 0, .int 0])), (h3, .inr (5, [.int 304, .int 0, .int 0, .int 0, .int 0, .int 0])), (h4, .inr (9, [.ref h5, .ref h6, .int 0, .int 0, .int 0, .int 0])), (h5, .inl (y0, 3, .inl u6_0)), (h6, .inl (y1, 3, .inl u6_1))]) hP hD [1, 2, 3] [0, 4, 5] rfl rfl (by decide) (by decide) hk1 hFc hP1 hD1 rfl
  have hK := (hK.sub (tys' := []) [] rfl).app hK1
  generalize H1 = H at hP hS ⊢
  have hK : va_K (dC, dI) vwCl [(y0, .int), (y1, .int)] s := hK
  rw [hQ]
  obtain ⟨hP9, hD9⟩ := nv_sub2 (wc := [(h0, .inr (1, [.ref h1, .ref h2, .ref h3, .ref h4])), (h2, .inr (7, [.int 0, .int 0, .int 0, .int 0, .int 0])), (h3, .inr (5, [.int 304, .int 0, .int 0, .int 0, .int 0, .int 0])), (h4, .inr (9, [.ref h5, .ref h6, .int 0, .int 0, .int 0, .int 0])), (h5, .inl (y0, 3, .inl u6_0)), (h6, .inl (y1, 3, .inl u6_1))]) hP hD [0, 1, 2, 3, 4, 5] (by decide) rfl
  have hK9 := hK.sub (tys' := [(y0, .int), (y1, .int)]) [0, 1] rfl
  exact W.vret hx hb hr (fun t ht hW => ⟨⟨(u6_0, u6_1), rfl, ⟨ku6_0_0, ku6_0_1, ku6_0_2, ku6_1_0, ku6_1_1, ku6_1_2, trivial⟩, by rw [ht]; exact hP9, va_K.moved hW.alike hK9, hD9⟩, hS.F ht⟩) hS.2.2 dX1_clearThings_21
set_option maxHeartbeats 100000000 in
set_option maxRecDepth 100000 in
theorem cX3_clear_1 (l : Launch) (dC : Nat → ClassId) (dI : Nat → Nat → Nat) (h0 h1 h2 : Nat) (sz : Nat) (x0 : Int32) (ix0 : iv x0 0 40) : Met l yX3_clear (Cond.code yX3_clear cX3_clear 1 none :: lw_G) ({ frames := 0, cells := 0, slots := 0, locals := 0 }) (va_Pc [.ref h0] (fun U => U.heap.size = sz ∧ va_P (dC, dI) vwCl [(h0, .inr (3, [.ref h1, .ref h2, .int x0]))] U.heap ∧ va_K (dC, dI) vwCl [] U ∧ va_D (fun _ => True) [(h0, .inr (3, [.ref h1, .ref h2, .int x0]))])) (va_Qv (fun (u : Unit) => True) (fun (u : Unit) (t : State) => va_P (dC, dI) vwCl [(h0, .inr (3, [.ref h1, .ref h2, .int 0]))] t.heap ∧ va_K (dC, dI) vwCl [] t ∧ va_D (va_A [(h0, .inr (3, [.ref h1, .ref h2, .int x0]))] sz) [(h0, .inr (3, [.ref h1, .ref h2, .int 0]))]) (va_A [(h0, .inr (3, [.ref h1, .ref h2, .int x0]))] sz)) 0 0 (va_A [(h0, .inr (3, [.ref h1, .ref h2, .int x0]))] sz) := by
  refine Met.ofW (cc := cX3_clear) (maxL := 1) (ret := none) (by decide) rfl ?_
  intro p e s m args below meth c s₁ B hml hv
  obtain ⟨rfl, hsz, hP, hK, hD0⟩ := hv
  have hx := B.exec
  have hb := B.bytes
  have hr := B.returns
  have hts0 := atoms_spec (ws := Cond.code yX3_clear cX3_clear 1 none :: lw_G) B.pre
  have hG : ∀ w ∈ lw_G, w.before _ s = true := fun w h => hts0 w (List.mem_cons_of_mem _ h)
  have hown : s.vm.findClass RX3 = some m.cls := findClass_of_methodNamed B.named
  have hlocks := B.notSynchronized
  subst hsz
  have hD := hD0.self (sz := s.heap.size)
  generalize hAe : va_A [(h0, .inr (3, [.ref h1, .ref h2, .int x0]))] s.heap.size = A at hD ⊢
  have hA : ∀ q : Nat, s.heap.size ≤ q → A q := fun q h => by rw [← hAe]; exact Or.inr h
  have hS : va_S A s.heap s.heap [] := va_S.rf
  have hP : va_P (dC, dI) vwCl [(h0, .inr (3, [.ref h1, .ref h2, .int x0]))] s.heap := hP
  have hl := lv_entry ([.ref h0]) (n := 1) (Nat.le_of_ble_eq_true rfl)
  rw [lg_entry_eq]
  generalize (lg_sl ([.ref h0]) ++ List.replicate (1 - (lg_sl ([.ref h0])).length) Slot.unset).toArray = ls at hl ⊢
  have hl : lv_has ls 1 [(0, .ref h0)] := hl
  generalize ([.ref h0] : List Value).toArray = ar at hG ⊢
  refine wq (fun Q hQ => ?_)
  refine lv_aload_n hx hb dX3_clear_0 rfl (lv_at hl 0 rfl) ?_
  refine lv_iconst (v := 0) hx hb dX3_clear_1 (by decide) ?_
  refine va_put (D := (dC, dI)) (ci := 3) (v := .int 0) (ty := .int) (C := RX3) (T := TX3) (N := 3) hx hb hG inGX3 tyX3 tyX3_ok nmX3 hown hK hP hD hS 0 rfl rfl 2 (by decide) (hG _ wd_141) (fun _ h9 => h9) rfl (by decide +kernel) rfl rfl (Nat.le_of_ble_eq_true rfl) dX3_clear_2 (fun H locs hP hD hS => ?_)
  obtain ⟨hP, hD⟩ := nv_eq (ws' := [(h0, .inr (3, [.ref h1, .ref h2, .int 0]))]) hP hD rfl
  rw [hQ]
  obtain ⟨hP9, hD9⟩ := nv_sub2 (wc := [(h0, .inr (3, [.ref h1, .ref h2, .int 0]))]) hP hD [0] (by decide) rfl
  have hK9 := hK.sub (tys' := []) [] rfl
  exact W.vret hx hb hr (fun t ht hW => ⟨⟨(), rfl, trivial, by rw [ht]; exact hP9, va_K.moved hW.alike hK9, hD9⟩, hS.F ht⟩) hS.2.2 dX3_clear_5
set_option maxHeartbeats 100000000 in
set_option maxRecDepth 100000 in
theorem cX1_lookWord_1 (l : Launch) (dC : Nat → ClassId) (dI : Nat → Nat → Nat) (h0 h1 h2 h3 h4 h5 h6 : Nat) (y0 y1 y2 : ClassId) (sz : Nat) (x0 x1 x2 x3 x4 x5 x6 x7 x8 x9 x10 x11 x12 x13 x14 x15 : Int32) (f0 f1 f2 : Nat → Int32) (ix4 : iv x4 0 1) : Met l yX1_lookWord (Cond.code yX1_lookWord cX1_lookWord 3 (some .int) :: lw_G) ({ frames := 2, cells := 0, slots := 0, locals := 42 }) (va_Pc [.ref h0, .int x0] (fun U => U.heap.size = sz ∧ va_P (dC, dI) vwCl [(h0, .inr (1, [.ref h1, .ref h2, .ref h3, .ref h4])), (h1, .inl (y0, 32768, .inl f0)), (h4, .inr (9, [.ref h5, .ref h6, .int x1, .int x2, .int x3, .int x4])), (h6, .inl (y1, 3, .inl f1)), (h5, .inl (y2, 3, .inl f2)), (h3, .inr (5, [.int x5, .int x6, .int x7, .int x8, .int x9, .int x10])), (h2, .inr (7, [.int x11, .int x12, .int x13, .int x14, .int x15]))] U.heap ∧ va_K (dC, dI) vwCl [(y0, .int), (y1, .int), (y2, .int)] U ∧ va_D (fun _ => True) [(h0, .inr (1, [.ref h1, .ref h2, .ref h3, .ref h4])), (h1, .inl (y0, 32768, .inl f0)), (h4, .inr (9, [.ref h5, .ref h6, .int x1, .int x2, .int x3, .int x4])), (h6, .inl (y1, 3, .inl f1)), (h5, .inl (y2, 3, .inl f2)), (h3, .inr (5, [.int x5, .int x6, .int x7, .int x8, .int x9, .int x10])), (h2, .inr (7, [.int x11, .int x12, .int x13, .int x14, .int x15]))])) (va_Qi (fun (r : Int32) (u : Unit) => True) (fun (u : Unit) (t : State) => va_P (dC, dI) vwCl [(h0, .inr (1, [.ref h1, .ref h2, .ref h3, .ref h4])), (h1, .inl (y0, 32768, .inl f0)), (h4, .inr (9, [.ref h5, .ref h6, .int x1, .int x2, .int x3, .int x4])), (h6, .inl (y1, 3, .inl f1)), (h5, .inl (y2, 3, .inl f2)), (h3, .inr (5, [.int x5, .int x6, .int x7, .int x8, .int x9, .int x10])), (h2, .inr (7, [.int x11, .int x12, .int x13, .int x14, .int x15]))] t.heap ∧ va_K (dC, dI) vwCl [(y0, .int), (y1, .int), (y2, .int)] t ∧ va_D (va_A [(h0, .inr (1, [.ref h1, .ref h2, .ref h3, .ref h4])), (h1, .inl (y0, 32768, .inl f0)), (h4, .inr (9, [.ref h5, .ref h6, .int x1, .int x2, .int x3, .int x4])), (h6, .inl (y1, 3, .inl f1)), (h5, .inl (y2, 3, .inl f2)), (h3, .inr (5, [.int x5, .int x6, .int x7, .int x8, .int x9, .int x10])), (h2, .inr (7, [.int x11, .int x12, .int x13, .int x14, .int x15]))] sz) [(h0, .inr (1, [.ref h1, .ref h2, .ref h3, .ref h4])), (h1, .inl (y0, 32768, .inl f0)), (h4, .inr (9, [.ref h5, .ref h6, .int x1, .int x2, .int x3, .int x4])), (h6, .inl (y1, 3, .inl f1)), (h5, .inl (y2, 3, .inl f2)), (h3, .inr (5, [.int x5, .int x6, .int x7, .int x8, .int x9, .int x10])), (h2, .inr (7, [.int x11, .int x12, .int x13, .int x14, .int x15]))]) (va_A [(h0, .inr (1, [.ref h1, .ref h2, .ref h3, .ref h4])), (h1, .inl (y0, 32768, .inl f0)), (h4, .inr (9, [.ref h5, .ref h6, .int x1, .int x2, .int x3, .int x4])), (h6, .inl (y1, 3, .inl f1)), (h5, .inl (y2, 3, .inl f2)), (h3, .inr (5, [.int x5, .int x6, .int x7, .int x8, .int x9, .int x10])), (h2, .inr (7, [.int x11, .int x12, .int x13, .int x14, .int x15]))] sz)) 0 0 (va_A [(h0, .inr (1, [.ref h1, .ref h2, .ref h3, .ref h4])), (h1, .inl (y0, 32768, .inl f0)), (h4, .inr (9, [.ref h5, .ref h6, .int x1, .int x2, .int x3, .int x4])), (h6, .inl (y1, 3, .inl f1)), (h5, .inl (y2, 3, .inl f2)), (h3, .inr (5, [.int x5, .int x6, .int x7, .int x8, .int x9, .int x10])), (h2, .inr (7, [.int x11, .int x12, .int x13, .int x14, .int x15]))] sz) := by
  refine Met.ofW (cc := cX1_lookWord) (maxL := 3) (ret := (some .int)) (by decide) rfl ?_
  intro p e s m args below meth c s₁ B hml hv
  obtain ⟨rfl, hsz, hP, hK, hD0⟩ := hv
  have hx := B.exec
  have hb := B.bytes
  have hr := B.returns
  have hts0 := atoms_spec (ws := Cond.code yX1_lookWord cX1_lookWord 3 (some .int) :: lw_G) B.pre
  have hG : ∀ w ∈ lw_G, w.before _ s = true := fun w h => hts0 w (List.mem_cons_of_mem _ h)
  have hown : s.vm.findClass RX1 = some m.cls := findClass_of_methodNamed B.named
  have hlocks := B.notSynchronized
  subst hsz
  have hD := hD0.self (sz := s.heap.size)
  generalize hAe : va_A [(h0, .inr (1, [.ref h1, .ref h2, .ref h3, .ref h4])), (h1, .inl (y0, 32768, .inl f0)), (h4, .inr (9, [.ref h5, .ref h6, .int x1, .int x2, .int x3, .int x4])), (h6, .inl (y1, 3, .inl f1)), (h5, .inl (y2, 3, .inl f2)), (h3, .inr (5, [.int x5, .int x6, .int x7, .int x8, .int x9, .int x10])), (h2, .inr (7, [.int x11, .int x12, .int x13, .int x14, .int x15]))] s.heap.size = A at hD ⊢
  have hA : ∀ q : Nat, s.heap.size ≤ q → A q := fun q h => by rw [← hAe]; exact Or.inr h
  have hS : va_S A s.heap s.heap [] := va_S.rf
  have hP : va_P (dC, dI) vwCl [(h0, .inr (1, [.ref h1, .ref h2, .ref h3, .ref h4])), (h1, .inl (y0, 32768, .inl f0)), (h4, .inr (9, [.ref h5, .ref h6, .int x1, .int x2, .int x3, .int x4])), (h6, .inl (y1, 3, .inl f1)), (h5, .inl (y2, 3, .inl f2)), (h3, .inr (5, [.int x5, .int x6, .int x7, .int x8, .int x9, .int x10])), (h2, .inr (7, [.int x11, .int x12, .int x13, .int x14, .int x15]))] s.heap := hP
  have hl := lv_entry ([.ref h0, .int x0]) (n := 3) (Nat.le_of_ble_eq_true rfl)
  rw [lg_entry_eq]
  generalize (lg_sl ([.ref h0, .int x0]) ++ List.replicate (3 - (lg_sl ([.ref h0, .int x0])).length) Slot.unset).toArray = ls at hl ⊢
  have hl : lv_has ls 3 [(0, .ref h0), (1, .int x0)] := hl
  generalize ([.ref h0, .int x0] : List Value).toArray = ar at hG ⊢
  refine wq (fun Q hQ => ?_)
  refine lv_iload_n hx hb dX1_lookWord_0 rfl (lv_at hl 1 rfl) ?_
  refine lv_ldc hx hb hown (hG _ wd_719) dX1_lookWord_1 ?_
  refine lv_iand hx hb dX1_lookWord_3 ?_
  refine lv_topi (fun v1 ev1 => ?_)
  have iv1 : iv v1 0 65534 := iv_eq ev1 (iv_and (x := x0) (iv_w (by decide : iv 65534 65534 65534) (by decide) (by decide) : iv 65534 0 65534))
  refine lv_istore_n (lv' := [(2, .int v1), (0, .ref h0), (1, .int x0)]) hx hb dX1_lookWord_4 rfl hl (by decide) rfl (fun ls hl => ?_)
  refine lv_iload_n hx hb dX1_lookWord_5 rfl (lv_at hl 0 rfl) ?_
  refine lv_sipush (v := 512) hx hb dX1_lookWord_6 (by decide) ?_
  refine jcut (a := ∀ (b9 : Int32) (H : Heap) (locs : List Loc) (hK : va_K (dC, dI) vwCl [(y0, .int), (y1, .int), (y2, .int)] s) (hP : va_P (dC, dI) vwCl [(h0, .inr (1, [.ref h1, .ref h2, .ref h3, .ref h4])), (h1, .inl (y0, 32768, .inl f0)), (h4, .inr (9, [.ref h5, .ref h6, .int x1, .int x2, .int x3, .int x4])), (h6, .inl (y1, 3, .inl f1)), (h5, .inl (y2, 3, .inl f2)), (h3, .inr (5, [.int x5, .int x6, .int x7, .int x8, .int x9, .int x10])), (h2, .inr (7, [.int x11, .int x12, .int x13, .int x14, .int x15]))] H) (hD : va_D A [(h0, .inr (1, [.ref h1, .ref h2, .ref h3, .ref h4])), (h1, .inl (y0, 32768, .inl f0)), (h4, .inr (9, [.ref h5, .ref h6, .int x1, .int x2, .int x3, .int x4])), (h6, .inl (y1, 3, .inl f1)), (h5, .inl (y2, 3, .inl f2)), (h3, .inr (5, [.int x5, .int x6, .int x7, .int x8, .int x9, .int x10])), (h2, .inr (7, [.int x11, .int x12, .int x13, .int x14, .int x15]))]) (hS : va_S A s.heap H locs) (ls : Array Slot) (hl : lv_has ls 3 []), W p l e (headSpec (Cond.code yX1_lookWord cX1_lookWord 3 (some .int) :: lw_G) ({ frames := 2, cells := 0, slots := 0, locals := 42 })).room s m ar below meth c H locs 0 0 Q (F0 m 28 ls [.int b9])) ?_ (fun j10 => ?_)
  · skip
    intro b9 H locs hK hP hD hS ls hl
    rw [hQ]
    obtain ⟨hP9, hD9⟩ := nv_sub2 (wc := [(h0, .inr (1, [.ref h1, .ref h2, .ref h3, .ref h4])), (h1, .inl (y0, 32768, .inl f0)), (h4, .inr (9, [.ref h5, .ref h6, .int x1, .int x2, .int x3, .int x4])), (h6, .inl (y1, 3, .inl f1)), (h5, .inl (y2, 3, .inl f2)), (h3, .inr (5, [.int x5, .int x6, .int x7, .int x8, .int x9, .int x10])), (h2, .inr (7, [.int x11, .int x12, .int x13, .int x14, .int x15]))]) hP hD [0, 1, 2, 3, 4, 5, 6] (by decide) rfl
    have hK9 := hK.sub (tys' := [(y0, .int), (y1, .int), (y2, .int)]) [0, 1, 2] rfl
    exact W.iret (v := b9) hx hb hr (fun t ht hW => ⟨⟨b9, (), rfl, trivial, by rw [ht]; exact hP9, va_K.moved hW.alike hK9, hD9⟩, hS.F ht⟩) hS.2.2 dX1_lookWord_28
  refine lv_icmp_ge (tgt := 20) hx hb dX1_lookWord_9 (by decide) (fun c2 => ?_) (fun c2 => ?_)
  · skip
    have j11 : iv v1 512 65534 := iv_leR (by decide : iv 512 512 512) iv1 c2 (by decide)
    refine lv_aload_n hx hb dX1_lookWord_20 rfl (lv_at hl 1 rfl) ?_
    refine va_get (D := (dC, dI)) (ci := 1) (v := .ref h1) (C := RX1) (T := TX1) (N := 4) hx hb hG inGX1 hown hK hP 0 rfl rfl 0 (by decide) (hG _ wd_114) (fun _ h9 => h9) rfl dX1_lookWord_21 ?_
    refine lv_iload_n hx hb dX1_lookWord_24 rfl (lv_at hl 0 rfl) ?_
    refine lv_iconst (v := 1) hx hb dX1_lookWord_25 (by decide) ?_
    refine lv_ishr hx hb dX1_lookWord_26 ?_
    refine lv_topi (fun v12 ev12 => ?_)
    have iv12 : iv v12 256 32767 := iv_eq ev12 (iv_shr 1 (by decide) j11 (by decide) (by decide))
    refine va_iald hx hb hK hP 1 0 rfl rfl (iv_in iv12 (by decide) (by decide) : vp_in v12 32768) dX1_lookWord_27 ?_
    refine lv_topi (fun v13 ev13 => ?_)
    exact j10 v13 _ _ hK hP hD hS ls (lv_sub hl [] rfl)
  · skip
    have j14 : iv v1 0 511 := iv_nleR (by decide : iv 512 512 512) iv1 c2 (by decide)
    refine lv_aload_n hx hb dX1_lookWord_12 rfl (lv_at hl 1 rfl) ?_
    refine lv_iload_n hx hb dX1_lookWord_13 rfl (lv_at hl 0 rfl) ?_
    obtain ⟨hPc, hDc, hFc⟩ := nv_sub3 (wc := [(h0, .inr (1, [.ref h1, .ref h2, .ref h3, .ref h4])), (h4, .inr (9, [.ref h5, .ref h6, .int x1, .int x2, .int x3, .int x4])), (h6, .inl (y1, 3, .inl f1)), (h5, .inl (y2, 3, .inl f2)), (h3, .inr (5, [.int x5, .int x6, .int x7, .int x8, .int x9, .int x10])), (h2, .inr (7, [.int x11, .int x12, .int x13, .int x14, .int x15]))]) hP hD hS hA [0, 2, 3, 4, 5, 6] (by decide) rfl
    have hKc := hK.sub (tys' := [(y1, .int), (y2, .int)]) [1, 2] rfl
    refine va_calli (va_runV (As := [.int v1]) (rest := []) ⟨hx, hb, hml, hown, hG⟩ (cX1_thingWord_1 l dC dI h0 h1 h2 h3 h4 h5 h6 y1 y2 s.heap.size v1 x1 x2 x3 x4 x5 x6 x7 x8 x9 x10 x11 x12 x13 x14 x15 f1 f2 ix4) (cwV 1 hG (gV wd_720 wd_722 wp_27 wd_2 wd_723) rfl rfl rfl (by decide +kernel) ⟨Nat.le_of_ble_eq_true rfl, Nat.le_of_ble_eq_true rfl⟩) ⟨fun a U g mk q => by obtain ⟨q0, q1, qP, qK, qD⟩ := q; exact ⟨q0, q1, qP, va_K.moved (u := U) (U := U.calling g mk a) (Vm.Alike.refl U.vm) qK, qD⟩, va_recv hKc hPc (ci := 1) (q0 := 0) rfl rfl, fun U hU hW => ⟨rfl, by rw [hU], by rw [hU]; exact hPc, va_K.moved hW.alike hKc, hDc.weaken (fun _ _ _ _ => trivial)⟩⟩ rfl rfl hl.1 rfl (lv_room (Nat.le_of_ble_eq_true rfl)) dX1_lookWord_14 ⟨by decide, by decide⟩) hS (fun q _ h => hFc q h) hFc (fun r15 u16 t H1 locs ht hvm hw hB hz1 hk1 hS => ?_)
    obtain ⟨hP1, hK1, hD1⟩ := hB
    rw [ht] at hP1
    have hK1 := va_K.moved hvm.symm hK1
    obtain ⟨hP, hD⟩ := nv_join (wf := [(h1, .inl (y0, 32768, .inl f0)), (h0, .inr (1, [.ref h1, .ref h2, .ref h3, .ref h4])), (h4, .inr (9, [.ref h5, .ref h6, .int x1, .int x2, .int x3, .int x4])), (h6, .inl (y1, 3, .inl f1)), (h5, .inl (y2, 3, .inl f2)), (h3, .inr (5, [.int x5, .int x6, .int x7, .int x8, .int x9, .int x10])), (h2, .inr (7, [.int x11, .int x12, .int x13, .int x14, .int x15]))]) hP hD [0, 2, 3, 4, 5, 6] [1] rfl rfl (by decide) (by decide) hk1 hFc hP1 hD1 rfl
    have hK := (hK.sub (tys' := [(y0, .int)]) [0] rfl).app hK1
    generalize H1 = H at hP hS ⊢
    have hK : va_K (dC, dI) vwCl [(y0, .int), (y1, .int), (y2, .int)] s := hK
    refine lv_goto (tgt := 28) hx hb dX1_lookWord_17 (by decide) ?_
    exact j10 r15 _ _ hK (hP.sub (ws' := _) [1, 0, 2, 3, 4, 5, 6] rfl) (hD.sub (ws' := _) [1, 0, 2, 3, 4, 5, 6] (by decide) rfl) hS ls (lv_sub hl [] rfl)
set_option maxHeartbeats 100000000 in
set_option maxRecDepth 100000 in
theorem cX2_writeRegister_1 (l : Launch) (dC : Nat → ClassId) (dI : Nat → Nat → Nat) (h0 h1 h2 h3 : Nat) (y0 : ClassId) (sz : Nat) (x0 x1 x2 x3 x4 x5 x6 : Int32) (f0 : Nat → Int32) (ix6 : iv x6 0 1) : Met l yX2_writeRegister (Cond.code yX2_writeRegister cX2_writeRegister 3 none :: lw_G) ({ frames := 0, cells := 0, slots := 0, locals := 0 }) (va_Pc [.ref h0, .int x0, .int x1] (fun U => U.heap.size = sz ∧ va_P (dC, dI) vwCl [(h0, .inr (2, [.ref h1, .ref h2, .ref h3, .int x2, .int x3, .int x4, .int x5, .int x6])), (h1, .inl (y0, 16, .inl f0))] U.heap ∧ va_K (dC, dI) vwCl [(y0, .int)] U ∧ va_D (fun _ => True) [(h0, .inr (2, [.ref h1, .ref h2, .ref h3, .int x2, .int x3, .int x4, .int x5, .int x6])), (h1, .inl (y0, 16, .inl f0))])) (va_Qv (fun (u : (Nat → Int32)) => True) (fun (u : (Nat → Int32)) (t : State) => va_P (dC, dI) vwCl [(h0, .inr (2, [.ref h1, .ref h2, .ref h3, .int x2, .int x3, .int x4, .int x5, .int x6])), (h1, .inl (y0, 16, .inl u))] t.heap ∧ va_K (dC, dI) vwCl [(y0, .int)] t ∧ va_D (va_A [(h0, .inr (2, [.ref h1, .ref h2, .ref h3, .int x2, .int x3, .int x4, .int x5, .int x6])), (h1, .inl (y0, 16, .inl f0))] sz) [(h0, .inr (2, [.ref h1, .ref h2, .ref h3, .int x2, .int x3, .int x4, .int x5, .int x6])), (h1, .inl (y0, 16, .inl u))]) (va_A [(h0, .inr (2, [.ref h1, .ref h2, .ref h3, .int x2, .int x3, .int x4, .int x5, .int x6])), (h1, .inl (y0, 16, .inl f0))] sz)) 0 0 (va_A [(h0, .inr (2, [.ref h1, .ref h2, .ref h3, .int x2, .int x3, .int x4, .int x5, .int x6])), (h1, .inl (y0, 16, .inl f0))] sz) := by
  refine Met.ofW (cc := cX2_writeRegister) (maxL := 3) (ret := none) (by decide) rfl ?_
  intro p e s m args below meth c s₁ B hml hv
  obtain ⟨rfl, hsz, hP, hK, hD0⟩ := hv
  have hx := B.exec
  have hb := B.bytes
  have hr := B.returns
  have hts0 := atoms_spec (ws := Cond.code yX2_writeRegister cX2_writeRegister 3 none :: lw_G) B.pre
  have hG : ∀ w ∈ lw_G, w.before _ s = true := fun w h => hts0 w (List.mem_cons_of_mem _ h)
  have hown : s.vm.findClass RX2 = some m.cls := findClass_of_methodNamed B.named
  have hlocks := B.notSynchronized
  subst hsz
  have hD := hD0.self (sz := s.heap.size)
  generalize hAe : va_A [(h0, .inr (2, [.ref h1, .ref h2, .ref h3, .int x2, .int x3, .int x4, .int x5, .int x6])), (h1, .inl (y0, 16, .inl f0))] s.heap.size = A at hD ⊢
  have hA : ∀ q : Nat, s.heap.size ≤ q → A q := fun q h => by rw [← hAe]; exact Or.inr h
  have hS : va_S A s.heap s.heap [] := va_S.rf
  have hP : va_P (dC, dI) vwCl [(h0, .inr (2, [.ref h1, .ref h2, .ref h3, .int x2, .int x3, .int x4, .int x5, .int x6])), (h1, .inl (y0, 16, .inl f0))] s.heap := hP
  have hl := lv_entry ([.ref h0, .int x0, .int x1]) (n := 3) (Nat.le_of_ble_eq_true rfl)
  rw [lg_entry_eq]
  generalize (lg_sl ([.ref h0, .int x0, .int x1]) ++ List.replicate (3 - (lg_sl ([.ref h0, .int x0, .int x1])).length) Slot.unset).toArray = ls at hl ⊢
  have hl : lv_has ls 3 [(0, .ref h0), (1, .int x0), (2, .int x1)] := hl
  generalize ([.ref h0, .int x0, .int x1] : List Value).toArray = ar at hG ⊢
  refine wq (fun Q hQ => ?_)
  refine lv_iload_n hx hb dX2_writeRegister_0 rfl (lv_at hl 1 rfl) ?_
  refine jcut (a := ∀ (b14 : Nat → Int32) (H : Heap) (locs : List Loc) (hK : va_K (dC, dI) vwCl [(y0, .int)] s) (hP : va_P (dC, dI) vwCl [(h0, .inr (2, [.ref h1, .ref h2, .ref h3, .int x2, .int x3, .int x4, .int x5, .int x6])), (h1, .inl (y0, 16, .inl b14))] H) (hD : va_D A [(h0, .inr (2, [.ref h1, .ref h2, .ref h3, .int x2, .int x3, .int x4, .int x5, .int x6])), (h1, .inl (y0, 16, .inl b14))]) (hS : va_S A s.heap H locs) (ls : Array Slot) (hl : lv_has ls 3 []), W p l e (headSpec (Cond.code yX2_writeRegister cX2_writeRegister 3 none :: lw_G) ({ frames := 0, cells := 0, slots := 0, locals := 0 })).room s m ar below meth c H locs 0 0 Q (F0 m 59 ls [])) ?_ (fun j15 => ?_)
  · skip
    intro b14 H locs hK hP hD hS ls hl
    rw [hQ]
    obtain ⟨hP9, hD9⟩ := nv_sub2 (wc := [(h0, .inr (2, [.ref h1, .ref h2, .ref h3, .int x2, .int x3, .int x4, .int x5, .int x6])), (h1, .inl (y0, 16, .inl b14))]) hP hD [0, 1] (by decide) rfl
    have hK9 := hK.sub (tys' := [(y0, .int)]) [0] rfl
    exact W.vret hx hb hr (fun t ht hW => ⟨⟨b14, rfl, trivial, by rw [ht]; exact hP9, va_K.moved hW.alike hK9, hD9⟩, hS.F ht⟩) hS.2.2 dX2_writeRegister_59
  refine lv_if_eq (tgt := 9) hx hb dX2_writeRegister_1 (by decide) (fun c1 => ?_) (fun c1 => ?_)
  · skip
    subst c1
    refine lv_aload_n hx hb dX2_writeRegister_9 rfl (lv_at hl 0 rfl) ?_
    refine va_get (D := (dC, dI)) (ci := 2) (v := .ref h1) (C := RX2) (T := TX2) (N := 8) hx hb hG inGX2 hown hK hP 0 rfl rfl 0 (by decide) (hG _ wd_149) (fun _ h9 => h9) rfl dX2_writeRegister_10 ?_
    refine lv_iload_n hx hb dX2_writeRegister_13 rfl (lv_at hl 1 rfl) ?_
    refine lv_iload_n hx hb dX2_writeRegister_14 rfl (lv_at hl 2 rfl) ?_
    refine lv_ldc hx hb hown (hG _ wd_820) dX2_writeRegister_15 ?_
    refine lv_iand hx hb dX2_writeRegister_17 ?_
    refine lv_topi (fun v16 ev16 => ?_)
    have iv16 : iv v16 0 65534 := iv_eq ev16 (iv_and (x := x1) (iv_w (by decide : iv 65534 65534 65534) (by decide) (by decide) : iv 65534 0 65534))
    refine va_iast hx hb hK hP hD hS 1 0 rfl rfl (iv_in (by decide : iv 0 0 0) (by decide) (by decide) : vp_in 0 16) dX2_writeRegister_18 (fun H locs hP hD hS => ?_)
    obtain ⟨nf17, enf17⟩ : ∃ z, z = upd f0 (0 : Int32).toNatClampNeg v16 := ⟨_, rfl⟩
    obtain ⟨hP, hD⟩ := nv_eq (ws' := [(h0, .inr (2, [.ref h1, .ref h2, .ref h3, .int x2, .int x3, .int x4, .int x5, .int x6])), (h1, .inl (y0, 16, .inl nf17))]) hP hD (by subst enf17; rfl)
    refine lv_goto (tgt := 59) hx hb dX2_writeRegister_19 (by decide) ?_
    exact j15 nf17 _ _ hK hP hD hS ls (lv_sub hl [] rfl)
  · skip
    refine lv_iload_n hx hb dX2_writeRegister_4 rfl (lv_at hl 1 rfl) ?_
    refine lv_iconst (v := 1) hx hb dX2_writeRegister_5 (by decide) ?_
    refine lv_icmp_ne (tgt := 22) hx hb dX2_writeRegister_6 (by decide) (fun c18 => ?_) (fun c18 => ?_)
    · skip
      refine lv_iload_n hx hb dX2_writeRegister_22 rfl (lv_at hl 1 rfl) ?_
      refine lv_iconst (v := 2) hx hb dX2_writeRegister_23 (by decide) ?_
      refine lv_icmp_ne (tgt := 41) hx hb dX2_writeRegister_24 (by decide) (fun c19 => ?_) (fun c19 => ?_)
      · skip
        refine lv_iload_n hx hb dX2_writeRegister_41 rfl (lv_at hl 1 rfl) ?_
        refine lv_iconst (v := 3) hx hb dX2_writeRegister_42 (by decide) ?_
        refine lv_icmp_eq (tgt := 59) hx hb dX2_writeRegister_43 (by decide) (fun c20 => ?_) (fun c20 => ?_)
        · skip
          subst c20
          exact j15 f0 _ _ hK hP hD hS ls (lv_sub hl [] rfl)
        · skip
          refine lv_aload_n hx hb dX2_writeRegister_46 rfl (lv_at hl 0 rfl) ?_
          refine va_get (D := (dC, dI)) (ci := 2) (v := .ref h1) (C := RX2) (T := TX2) (N := 8) hx hb hG inGX2 hown hK hP 0 rfl rfl 0 (by decide) (hG _ wd_149) (fun _ h9 => h9) rfl dX2_writeRegister_47 ?_
          refine lv_iload_n hx hb dX2_writeRegister_50 rfl (lv_at hl 1 rfl) ?_
          refine lv_bipush (v := 15) hx hb dX2_writeRegister_51 (by decide) ?_
          refine lv_iand hx hb dX2_writeRegister_53 ?_
          refine lv_topi (fun v21 ev21 => ?_)
          have iv21 : iv v21 0 15 := iv_eq ev21 (iv_and (x := x0) (iv_w (by decide : iv 15 15 15) (by decide) (by decide) : iv 15 0 15))
          refine lv_iload_n hx hb dX2_writeRegister_54 rfl (lv_at hl 2 rfl) ?_
          refine lv_ldc hx hb hown (hG _ wd_829) dX2_writeRegister_55 ?_
          refine lv_iand hx hb dX2_writeRegister_57 ?_
          refine lv_topi (fun v22 ev22 => ?_)
          have iv22 : iv v22 0 65535 := iv_eq ev22 (iv_and (x := x1) (iv_w (by decide : iv 65535 65535 65535) (by decide) (by decide) : iv 65535 0 65535))
          refine va_iast hx hb hK hP hD hS 1 0 rfl rfl (iv_in iv21 (by decide) (by decide) : vp_in v21 16) dX2_writeRegister_58 (fun H locs hP hD hS => ?_)
          obtain ⟨nf23, enf23⟩ : ∃ z, z = upd f0 v21.toNatClampNeg v22 := ⟨_, rfl⟩
          obtain ⟨hP, hD⟩ := nv_eq (ws' := [(h0, .inr (2, [.ref h1, .ref h2, .ref h3, .int x2, .int x3, .int x4, .int x5, .int x6])), (h1, .inl (y0, 16, .inl nf23))]) hP hD (by subst enf23; rfl)
          exact j15 nf23 _ _ hK hP hD hS ls (lv_sub hl [] rfl)
      · skip
        subst c19
        refine lv_aload_n hx hb dX2_writeRegister_27 rfl (lv_at hl 0 rfl) ?_
        refine va_get (D := (dC, dI)) (ci := 2) (v := .ref h1) (C := RX2) (T := TX2) (N := 8) hx hb hG inGX2 hown hK hP 0 rfl rfl 0 (by decide) (hG _ wd_149) (fun _ h9 => h9) rfl dX2_writeRegister_28 ?_
        refine lv_iconst (v := 2) hx hb dX2_writeRegister_31 (by decide) ?_
        refine lv_iload_n hx hb dX2_writeRegister_32 rfl (lv_at hl 2 rfl) ?_
        refine lv_sipush (v := 511) hx hb dX2_writeRegister_33 (by decide) ?_
        refine lv_iand hx hb dX2_writeRegister_36 ?_
        refine lv_topi (fun v24 ev24 => ?_)
        have iv24 : iv v24 0 511 := iv_eq ev24 (iv_and (x := x1) (iv_w (by decide : iv 511 511 511) (by decide) (by decide) : iv 511 0 511))
        refine va_iast hx hb hK hP hD hS 1 0 rfl rfl (iv_in (by decide : iv 2 2 2) (by decide) (by decide) : vp_in 2 16) dX2_writeRegister_37 (fun H locs hP hD hS => ?_)
        obtain ⟨nf25, enf25⟩ : ∃ z, z = upd f0 (2 : Int32).toNatClampNeg v24 := ⟨_, rfl⟩
        obtain ⟨hP, hD⟩ := nv_eq (ws' := [(h0, .inr (2, [.ref h1, .ref h2, .ref h3, .int x2, .int x3, .int x4, .int x5, .int x6])), (h1, .inl (y0, 16, .inl nf25))]) hP hD (by subst enf25; rfl)
        refine lv_goto (tgt := 59) hx hb dX2_writeRegister_38 (by decide) ?_
        exact j15 nf25 _ _ hK hP hD hS ls (lv_sub hl [] rfl)
    · skip
      subst c18
      refine lv_aload_n hx hb dX2_writeRegister_9 rfl (lv_at hl 0 rfl) ?_
      refine va_get (D := (dC, dI)) (ci := 2) (v := .ref h1) (C := RX2) (T := TX2) (N := 8) hx hb hG inGX2 hown hK hP 0 rfl rfl 0 (by decide) (hG _ wd_149) (fun _ h9 => h9) rfl dX2_writeRegister_10 ?_
      refine lv_iload_n hx hb dX2_writeRegister_13 rfl (lv_at hl 1 rfl) ?_
      refine lv_iload_n hx hb dX2_writeRegister_14 rfl (lv_at hl 2 rfl) ?_
      refine lv_ldc hx hb hown (hG _ wd_820) dX2_writeRegister_15 ?_
      refine lv_iand hx hb dX2_writeRegister_17 ?_
      refine lv_topi (fun v26 ev26 => ?_)
      have iv26 : iv v26 0 65534 := iv_eq ev26 (iv_and (x := x1) (iv_w (by decide : iv 65534 65534 65534) (by decide) (by decide) : iv 65534 0 65534))
      refine va_iast hx hb hK hP hD hS 1 0 rfl rfl (iv_in (by decide : iv 1 1 1) (by decide) (by decide) : vp_in 1 16) dX2_writeRegister_18 (fun H locs hP hD hS => ?_)
      obtain ⟨nf27, enf27⟩ : ∃ z, z = upd f0 (1 : Int32).toNatClampNeg v26 := ⟨_, rfl⟩
      obtain ⟨hP, hD⟩ := nv_eq (ws' := [(h0, .inr (2, [.ref h1, .ref h2, .ref h3, .int x2, .int x3, .int x4, .int x5, .int x6])), (h1, .inl (y0, 16, .inl nf27))]) hP hD (by subst enf27; rfl)
      refine lv_goto (tgt := 59) hx hb dX2_writeRegister_19 (by decide) ?_
      exact j15 nf27 _ _ hK hP hD hS ls (lv_sub hl [] rfl)
set_option maxHeartbeats 100000000 in
set_option maxRecDepth 100000 in
theorem cX2_restart_1 (l : Launch) (dC : Nat → ClassId) (dI : Nat → Nat → Nat) (h0 h1 h2 h3 h4 h5 h6 h7 h8 h9 h10 h11 : Nat) (y0 y1 y2 y3 : ClassId) (sz : Nat) (x0 x1 x2 x3 x4 x5 x6 x7 x8 x9 x10 x11 x12 x13 x14 x15 x16 x17 x18 x19 x20 : Int32) (f0 f1 f2 f3 : Nat → Int32) (ix4 : iv x4 0 1) (ix5 : iv x5 0 40) (ix9 : iv x9 0 1) : Met l yX2_restart (Cond.code yX2_restart cX2_restart 2 none :: lw_G) ({ frames := 3, cells := 0, slots := 0, locals := 64 }) (va_Pc [.ref h0] (fun U => U.heap.size = sz ∧ va_P (dC, dI) vwCl [(h0, .inr (2, [.ref h1, .ref h2, .ref h3, .int x0, .int x1, .int x2, .int x3, .int x4])), (h1, .inl (y0, 16, .inl f0)), (h2, .inr (3, [.ref h4, .ref h5, .int x5])), (h3, .inr (1, [.ref h6, .ref h7, .ref h8, .ref h9])), (h6, .inl (y1, 32768, .inl f1)), (h9, .inr (9, [.ref h10, .ref h11, .int x6, .int x7, .int x8, .int x9])), (h11, .inl (y2, 3, .inl f2)), (h10, .inl (y3, 3, .inl f3)), (h8, .inr (5, [.int x10, .int x11, .int x12, .int x13, .int x14, .int x15])), (h7, .inr (7, [.int x16, .int x17, .int x18, .int x19, .int x20]))] U.heap ∧ va_K (dC, dI) vwCl [(y0, .int), (y1, .int), (y2, .int), (y3, .int)] U ∧ va_D (fun _ => True) [(h0, .inr (2, [.ref h1, .ref h2, .ref h3, .int x0, .int x1, .int x2, .int x3, .int x4])), (h1, .inl (y0, 16, .inl f0)), (h2, .inr (3, [.ref h4, .ref h5, .int x5])), (h3, .inr (1, [.ref h6, .ref h7, .ref h8, .ref h9])), (h6, .inl (y1, 32768, .inl f1)), (h9, .inr (9, [.ref h10, .ref h11, .int x6, .int x7, .int x8, .int x9])), (h11, .inl (y2, 3, .inl f2)), (h10, .inl (y3, 3, .inl f3)), (h8, .inr (5, [.int x10, .int x11, .int x12, .int x13, .int x14, .int x15])), (h7, .inr (7, [.int x16, .int x17, .int x18, .int x19, .int x20]))])) (va_Qv (fun (u : (Nat → Int32)) => True) (fun (u : (Nat → Int32)) (t : State) => va_P (dC, dI) vwCl [(h0, .inr (2, [.ref h1, .ref h2, .ref h3, .int 0, .int 0, .int 0, .int x3, .int x4])), (h1, .inl (y0, 16, .inl u)), (h2, .inr (3, [.ref h4, .ref h5, .int 0])), (h3, .inr (1, [.ref h6, .ref h7, .ref h8, .ref h9])), (h6, .inl (y1, 32768, .inl f1)), (h9, .inr (9, [.ref h10, .ref h11, .int x6, .int x7, .int x8, .int x9])), (h11, .inl (y2, 3, .inl f2)), (h10, .inl (y3, 3, .inl f3)), (h8, .inr (5, [.int x10, .int x11, .int x12, .int x13, .int x14, .int x15])), (h7, .inr (7, [.int x16, .int x17, .int x18, .int x19, .int x20]))] t.heap ∧ va_K (dC, dI) vwCl [(y0, .int), (y1, .int), (y2, .int), (y3, .int)] t ∧ va_D (va_A [(h0, .inr (2, [.ref h1, .ref h2, .ref h3, .int x0, .int x1, .int x2, .int x3, .int x4])), (h1, .inl (y0, 16, .inl f0)), (h2, .inr (3, [.ref h4, .ref h5, .int x5])), (h3, .inr (1, [.ref h6, .ref h7, .ref h8, .ref h9])), (h6, .inl (y1, 32768, .inl f1)), (h9, .inr (9, [.ref h10, .ref h11, .int x6, .int x7, .int x8, .int x9])), (h11, .inl (y2, 3, .inl f2)), (h10, .inl (y3, 3, .inl f3)), (h8, .inr (5, [.int x10, .int x11, .int x12, .int x13, .int x14, .int x15])), (h7, .inr (7, [.int x16, .int x17, .int x18, .int x19, .int x20]))] sz) [(h0, .inr (2, [.ref h1, .ref h2, .ref h3, .int 0, .int 0, .int 0, .int x3, .int x4])), (h1, .inl (y0, 16, .inl u)), (h2, .inr (3, [.ref h4, .ref h5, .int 0])), (h3, .inr (1, [.ref h6, .ref h7, .ref h8, .ref h9])), (h6, .inl (y1, 32768, .inl f1)), (h9, .inr (9, [.ref h10, .ref h11, .int x6, .int x7, .int x8, .int x9])), (h11, .inl (y2, 3, .inl f2)), (h10, .inl (y3, 3, .inl f3)), (h8, .inr (5, [.int x10, .int x11, .int x12, .int x13, .int x14, .int x15])), (h7, .inr (7, [.int x16, .int x17, .int x18, .int x19, .int x20]))]) (va_A [(h0, .inr (2, [.ref h1, .ref h2, .ref h3, .int x0, .int x1, .int x2, .int x3, .int x4])), (h1, .inl (y0, 16, .inl f0)), (h2, .inr (3, [.ref h4, .ref h5, .int x5])), (h3, .inr (1, [.ref h6, .ref h7, .ref h8, .ref h9])), (h6, .inl (y1, 32768, .inl f1)), (h9, .inr (9, [.ref h10, .ref h11, .int x6, .int x7, .int x8, .int x9])), (h11, .inl (y2, 3, .inl f2)), (h10, .inl (y3, 3, .inl f3)), (h8, .inr (5, [.int x10, .int x11, .int x12, .int x13, .int x14, .int x15])), (h7, .inr (7, [.int x16, .int x17, .int x18, .int x19, .int x20]))] sz)) 0 0 (va_A [(h0, .inr (2, [.ref h1, .ref h2, .ref h3, .int x0, .int x1, .int x2, .int x3, .int x4])), (h1, .inl (y0, 16, .inl f0)), (h2, .inr (3, [.ref h4, .ref h5, .int x5])), (h3, .inr (1, [.ref h6, .ref h7, .ref h8, .ref h9])), (h6, .inl (y1, 32768, .inl f1)), (h9, .inr (9, [.ref h10, .ref h11, .int x6, .int x7, .int x8, .int x9])), (h11, .inl (y2, 3, .inl f2)), (h10, .inl (y3, 3, .inl f3)), (h8, .inr (5, [.int x10, .int x11, .int x12, .int x13, .int x14, .int x15])), (h7, .inr (7, [.int x16, .int x17, .int x18, .int x19, .int x20]))] sz) := by
  refine Met.ofW (cc := cX2_restart) (maxL := 2) (ret := none) (by decide) rfl ?_
  intro p e s m args below meth c s₁ B hml hv
  obtain ⟨rfl, hsz, hP, hK, hD0⟩ := hv
  have hx := B.exec
  have hb := B.bytes
  have hr := B.returns
  have hts0 := atoms_spec (ws := Cond.code yX2_restart cX2_restart 2 none :: lw_G) B.pre
  have hG : ∀ w ∈ lw_G, w.before _ s = true := fun w h => hts0 w (List.mem_cons_of_mem _ h)
  have hown : s.vm.findClass RX2 = some m.cls := findClass_of_methodNamed B.named
  have hlocks := B.notSynchronized
  subst hsz
  have hD := hD0.self (sz := s.heap.size)
  generalize hAe : va_A [(h0, .inr (2, [.ref h1, .ref h2, .ref h3, .int x0, .int x1, .int x2, .int x3, .int x4])), (h1, .inl (y0, 16, .inl f0)), (h2, .inr (3, [.ref h4, .ref h5, .int x5])), (h3, .inr (1, [.ref h6, .ref h7, .ref h8, .ref h9])), (h6, .inl (y1, 32768, .inl f1)), (h9, .inr (9, [.ref h10, .ref h11, .int x6, .int x7, .int x8, .int x9])), (h11, .inl (y2, 3, .inl f2)), (h10, .inl (y3, 3, .inl f3)), (h8, .inr (5, [.int x10, .int x11, .int x12, .int x13, .int x14, .int x15])), (h7, .inr (7, [.int x16, .int x17, .int x18, .int x19, .int x20]))] s.heap.size = A at hD ⊢
  have hA : ∀ q : Nat, s.heap.size ≤ q → A q := fun q h => by rw [← hAe]; exact Or.inr h
  have hS : va_S A s.heap s.heap [] := va_S.rf
  have hP : va_P (dC, dI) vwCl [(h0, .inr (2, [.ref h1, .ref h2, .ref h3, .int x0, .int x1, .int x2, .int x3, .int x4])), (h1, .inl (y0, 16, .inl f0)), (h2, .inr (3, [.ref h4, .ref h5, .int x5])), (h3, .inr (1, [.ref h6, .ref h7, .ref h8, .ref h9])), (h6, .inl (y1, 32768, .inl f1)), (h9, .inr (9, [.ref h10, .ref h11, .int x6, .int x7, .int x8, .int x9])), (h11, .inl (y2, 3, .inl f2)), (h10, .inl (y3, 3, .inl f3)), (h8, .inr (5, [.int x10, .int x11, .int x12, .int x13, .int x14, .int x15])), (h7, .inr (7, [.int x16, .int x17, .int x18, .int x19, .int x20]))] s.heap := hP
  have hl := lv_entry ([.ref h0]) (n := 2) (Nat.le_of_ble_eq_true rfl)
  rw [lg_entry_eq]
  generalize (lg_sl ([.ref h0]) ++ List.replicate (2 - (lg_sl ([.ref h0])).length) Slot.unset).toArray = ls at hl ⊢
  have hl : lv_has ls 2 [(0, .ref h0)] := hl
  generalize ([.ref h0] : List Value).toArray = ar at hG ⊢
  refine wq (fun Q hQ => ?_)
  refine lv_iconst (v := 0) hx hb dX2_restart_0 (by decide) ?_
  refine lv_istore_n (lv' := [(1, .int 0), (0, .ref h0)]) hx hb dX2_restart_1 rfl hl (by decide) rfl (fun ls hl => ?_)
  refine lv_iload_n hx hb dX2_restart_2 rfl (lv_at hl 0 rfl) ?_
  refine lv_bipush (v := 16) hx hb dX2_restart_3 (by decide) ?_
  refine lv_icmp_ge (tgt := 21) hx hb dX2_restart_5 (by decide) (fun c => absurd c (by decide)) (fun _ => ?_)
  refine lv_aload_n hx hb dX2_restart_8 rfl (lv_at hl 1 rfl) ?_
  refine va_get (D := (dC, dI)) (ci := 2) (v := .ref h1) (C := RX2) (T := TX2) (N := 8) hx hb hG inGX2 hown hK hP 0 rfl rfl 0 (by decide) (hG _ wd_149) (fun _ h9 => h9) rfl dX2_restart_9 ?_
  refine lv_iload_n hx hb dX2_restart_12 rfl (lv_at hl 0 rfl) ?_
  refine lv_iconst (v := 0) hx hb dX2_restart_13 (by decide) ?_
  refine va_iast hx hb hK hP hD hS 1 0 rfl rfl (iv_in (by decide : iv 0 0 0) (by decide) (by decide) : vp_in 0 16) dX2_restart_14 (fun H locs hP hD hS => ?_)
  obtain ⟨nf1, enf1⟩ : ∃ z, z = upd f0 (0 : Int32).toNatClampNeg 0 := ⟨_, rfl⟩
  obtain ⟨hP, hD⟩ := nv_eq (ws' := [(h0, .inr (2, [.ref h1, .ref h2, .ref h3, .int x0, .int x1, .int x2, .int x3, .int x4])), (h1, .inl (y0, 16, .inl nf1)), (h2, .inr (3, [.ref h4, .ref h5, .int x5])), (h3, .inr (1, [.ref h6, .ref h7, .ref h8, .ref h9])), (h6, .inl (y1, 32768, .inl f1)), (h9, .inr (9, [.ref h10, .ref h11, .int x6, .int x7, .int x8, .int x9])), (h11, .inl (y2, 3, .inl f2)), (h10, .inl (y3, 3, .inl f3)), (h8, .inr (5, [.int x10, .int x11, .int x12, .int x13, .int x14, .int x15])), (h7, .inr (7, [.int x16, .int x17, .int x18, .int x19, .int x20]))]) hP hD (by subst enf1; rfl)
  refine lv_iinc (v := 1) (lv' := [(1, .int 1), (0, .ref h0)]) hx hb dX2_restart_15 hl (k := 0) rfl (by decide) (by decide) rfl (fun ls hl => ?_)
  refine lv_goto (tgt := 2) hx hb dX2_restart_18 (by decide) ?_
  refine lv_iload_n hx hb dX2_restart_2 rfl (lv_at hl 0 rfl) ?_
  refine lv_bipush (v := 16) hx hb dX2_restart_3 (by decide) ?_
  refine lv_icmp_ge (tgt := 21) hx hb dX2_restart_5 (by decide) (fun c => absurd c (by decide)) (fun _ => ?_)
  refine lv_aload_n hx hb dX2_restart_8 rfl (lv_at hl 1 rfl) ?_
  refine va_get (D := (dC, dI)) (ci := 2) (v := .ref h1) (C := RX2) (T := TX2) (N := 8) hx hb hG inGX2 hown hK hP 0 rfl rfl 0 (by decide) (hG _ wd_149) (fun _ h9 => h9) rfl dX2_restart_9 ?_
  refine lv_iload_n hx hb dX2_restart_12 rfl (lv_at hl 0 rfl) ?_
  refine lv_iconst (v := 0) hx hb dX2_restart_13 (by decide) ?_
  refine va_iast hx hb hK hP hD hS 1 0 rfl rfl (iv_in (by decide : iv 1 1 1) (by decide) (by decide) : vp_in 1 16) dX2_restart_14 (fun H locs hP hD hS => ?_)
  obtain ⟨nf2, enf2⟩ : ∃ z, z = upd nf1 (1 : Int32).toNatClampNeg 0 := ⟨_, rfl⟩
  obtain ⟨hP, hD⟩ := nv_eq (ws' := [(h0, .inr (2, [.ref h1, .ref h2, .ref h3, .int x0, .int x1, .int x2, .int x3, .int x4])), (h1, .inl (y0, 16, .inl nf2)), (h2, .inr (3, [.ref h4, .ref h5, .int x5])), (h3, .inr (1, [.ref h6, .ref h7, .ref h8, .ref h9])), (h6, .inl (y1, 32768, .inl f1)), (h9, .inr (9, [.ref h10, .ref h11, .int x6, .int x7, .int x8, .int x9])), (h11, .inl (y2, 3, .inl f2)), (h10, .inl (y3, 3, .inl f3)), (h8, .inr (5, [.int x10, .int x11, .int x12, .int x13, .int x14, .int x15])), (h7, .inr (7, [.int x16, .int x17, .int x18, .int x19, .int x20]))]) hP hD (by subst enf2; rfl)
  refine lv_iinc (v := 2) (lv' := [(1, .int 2), (0, .ref h0)]) hx hb dX2_restart_15 hl (k := 0) rfl (by decide) (by decide) rfl (fun ls hl => ?_)
  refine lv_goto (tgt := 2) hx hb dX2_restart_18 (by decide) ?_
  refine lv_iload_n hx hb dX2_restart_2 rfl (lv_at hl 0 rfl) ?_
  refine lv_bipush (v := 16) hx hb dX2_restart_3 (by decide) ?_
  refine lv_icmp_ge (tgt := 21) hx hb dX2_restart_5 (by decide) (fun c => absurd c (by decide)) (fun _ => ?_)
  refine lv_aload_n hx hb dX2_restart_8 rfl (lv_at hl 1 rfl) ?_
  refine va_get (D := (dC, dI)) (ci := 2) (v := .ref h1) (C := RX2) (T := TX2) (N := 8) hx hb hG inGX2 hown hK hP 0 rfl rfl 0 (by decide) (hG _ wd_149) (fun _ h9 => h9) rfl dX2_restart_9 ?_
  refine lv_iload_n hx hb dX2_restart_12 rfl (lv_at hl 0 rfl) ?_
  refine lv_iconst (v := 0) hx hb dX2_restart_13 (by decide) ?_
  refine va_iast hx hb hK hP hD hS 1 0 rfl rfl (iv_in (by decide : iv 2 2 2) (by decide) (by decide) : vp_in 2 16) dX2_restart_14 (fun H locs hP hD hS => ?_)
  obtain ⟨nf3, enf3⟩ : ∃ z, z = upd nf2 (2 : Int32).toNatClampNeg 0 := ⟨_, rfl⟩
  obtain ⟨hP, hD⟩ := nv_eq (ws' := [(h0, .inr (2, [.ref h1, .ref h2, .ref h3, .int x0, .int x1, .int x2, .int x3, .int x4])), (h1, .inl (y0, 16, .inl nf3)), (h2, .inr (3, [.ref h4, .ref h5, .int x5])), (h3, .inr (1, [.ref h6, .ref h7, .ref h8, .ref h9])), (h6, .inl (y1, 32768, .inl f1)), (h9, .inr (9, [.ref h10, .ref h11, .int x6, .int x7, .int x8, .int x9])), (h11, .inl (y2, 3, .inl f2)), (h10, .inl (y3, 3, .inl f3)), (h8, .inr (5, [.int x10, .int x11, .int x12, .int x13, .int x14, .int x15])), (h7, .inr (7, [.int x16, .int x17, .int x18, .int x19, .int x20]))]) hP hD (by subst enf3; rfl)
  refine lv_iinc (v := 3) (lv' := [(1, .int 3), (0, .ref h0)]) hx hb dX2_restart_15 hl (k := 0) rfl (by decide) (by decide) rfl (fun ls hl => ?_)
  refine lv_goto (tgt := 2) hx hb dX2_restart_18 (by decide) ?_
  refine lv_iload_n hx hb dX2_restart_2 rfl (lv_at hl 0 rfl) ?_
  refine lv_bipush (v := 16) hx hb dX2_restart_3 (by decide) ?_
  refine lv_icmp_ge (tgt := 21) hx hb dX2_restart_5 (by decide) (fun c => absurd c (by decide)) (fun _ => ?_)
  refine lv_aload_n hx hb dX2_restart_8 rfl (lv_at hl 1 rfl) ?_
  refine va_get (D := (dC, dI)) (ci := 2) (v := .ref h1) (C := RX2) (T := TX2) (N := 8) hx hb hG inGX2 hown hK hP 0 rfl rfl 0 (by decide) (hG _ wd_149) (fun _ h9 => h9) rfl dX2_restart_9 ?_
  refine lv_iload_n hx hb dX2_restart_12 rfl (lv_at hl 0 rfl) ?_
  refine lv_iconst (v := 0) hx hb dX2_restart_13 (by decide) ?_
  refine va_iast hx hb hK hP hD hS 1 0 rfl rfl (iv_in (by decide : iv 3 3 3) (by decide) (by decide) : vp_in 3 16) dX2_restart_14 (fun H locs hP hD hS => ?_)
  obtain ⟨nf4, enf4⟩ : ∃ z, z = upd nf3 (3 : Int32).toNatClampNeg 0 := ⟨_, rfl⟩
  obtain ⟨hP, hD⟩ := nv_eq (ws' := [(h0, .inr (2, [.ref h1, .ref h2, .ref h3, .int x0, .int x1, .int x2, .int x3, .int x4])), (h1, .inl (y0, 16, .inl nf4)), (h2, .inr (3, [.ref h4, .ref h5, .int x5])), (h3, .inr (1, [.ref h6, .ref h7, .ref h8, .ref h9])), (h6, .inl (y1, 32768, .inl f1)), (h9, .inr (9, [.ref h10, .ref h11, .int x6, .int x7, .int x8, .int x9])), (h11, .inl (y2, 3, .inl f2)), (h10, .inl (y3, 3, .inl f3)), (h8, .inr (5, [.int x10, .int x11, .int x12, .int x13, .int x14, .int x15])), (h7, .inr (7, [.int x16, .int x17, .int x18, .int x19, .int x20]))]) hP hD (by subst enf4; rfl)
  refine lv_iinc (v := 4) (lv' := [(1, .int 4), (0, .ref h0)]) hx hb dX2_restart_15 hl (k := 0) rfl (by decide) (by decide) rfl (fun ls hl => ?_)
  refine lv_goto (tgt := 2) hx hb dX2_restart_18 (by decide) ?_
  refine lv_iload_n hx hb dX2_restart_2 rfl (lv_at hl 0 rfl) ?_
  refine lv_bipush (v := 16) hx hb dX2_restart_3 (by decide) ?_
  refine lv_icmp_ge (tgt := 21) hx hb dX2_restart_5 (by decide) (fun c => absurd c (by decide)) (fun _ => ?_)
  refine lv_aload_n hx hb dX2_restart_8 rfl (lv_at hl 1 rfl) ?_
  refine va_get (D := (dC, dI)) (ci := 2) (v := .ref h1) (C := RX2) (T := TX2) (N := 8) hx hb hG inGX2 hown hK hP 0 rfl rfl 0 (by decide) (hG _ wd_149) (fun _ h9 => h9) rfl dX2_restart_9 ?_
  refine lv_iload_n hx hb dX2_restart_12 rfl (lv_at hl 0 rfl) ?_
  refine lv_iconst (v := 0) hx hb dX2_restart_13 (by decide) ?_
  refine va_iast hx hb hK hP hD hS 1 0 rfl rfl (iv_in (by decide : iv 4 4 4) (by decide) (by decide) : vp_in 4 16) dX2_restart_14 (fun H locs hP hD hS => ?_)
  obtain ⟨nf5, enf5⟩ : ∃ z, z = upd nf4 (4 : Int32).toNatClampNeg 0 := ⟨_, rfl⟩
  obtain ⟨hP, hD⟩ := nv_eq (ws' := [(h0, .inr (2, [.ref h1, .ref h2, .ref h3, .int x0, .int x1, .int x2, .int x3, .int x4])), (h1, .inl (y0, 16, .inl nf5)), (h2, .inr (3, [.ref h4, .ref h5, .int x5])), (h3, .inr (1, [.ref h6, .ref h7, .ref h8, .ref h9])), (h6, .inl (y1, 32768, .inl f1)), (h9, .inr (9, [.ref h10, .ref h11, .int x6, .int x7, .int x8, .int x9])), (h11, .inl (y2, 3, .inl f2)), (h10, .inl (y3, 3, .inl f3)), (h8, .inr (5, [.int x10, .int x11, .int x12, .int x13, .int x14, .int x15])), (h7, .inr (7, [.int x16, .int x17, .int x18, .int x19, .int x20]))]) hP hD (by subst enf5; rfl)
  refine lv_iinc (v := 5) (lv' := [(1, .int 5), (0, .ref h0)]) hx hb dX2_restart_15 hl (k := 0) rfl (by decide) (by decide) rfl (fun ls hl => ?_)
  refine lv_goto (tgt := 2) hx hb dX2_restart_18 (by decide) ?_
  refine lv_iload_n hx hb dX2_restart_2 rfl (lv_at hl 0 rfl) ?_
  refine lv_bipush (v := 16) hx hb dX2_restart_3 (by decide) ?_
  refine lv_icmp_ge (tgt := 21) hx hb dX2_restart_5 (by decide) (fun c => absurd c (by decide)) (fun _ => ?_)
  refine lv_aload_n hx hb dX2_restart_8 rfl (lv_at hl 1 rfl) ?_
  refine va_get (D := (dC, dI)) (ci := 2) (v := .ref h1) (C := RX2) (T := TX2) (N := 8) hx hb hG inGX2 hown hK hP 0 rfl rfl 0 (by decide) (hG _ wd_149) (fun _ h9 => h9) rfl dX2_restart_9 ?_
  refine lv_iload_n hx hb dX2_restart_12 rfl (lv_at hl 0 rfl) ?_
  refine lv_iconst (v := 0) hx hb dX2_restart_13 (by decide) ?_
  refine va_iast hx hb hK hP hD hS 1 0 rfl rfl (iv_in (by decide : iv 5 5 5) (by decide) (by decide) : vp_in 5 16) dX2_restart_14 (fun H locs hP hD hS => ?_)
  obtain ⟨nf6, enf6⟩ : ∃ z, z = upd nf5 (5 : Int32).toNatClampNeg 0 := ⟨_, rfl⟩
  obtain ⟨hP, hD⟩ := nv_eq (ws' := [(h0, .inr (2, [.ref h1, .ref h2, .ref h3, .int x0, .int x1, .int x2, .int x3, .int x4])), (h1, .inl (y0, 16, .inl nf6)), (h2, .inr (3, [.ref h4, .ref h5, .int x5])), (h3, .inr (1, [.ref h6, .ref h7, .ref h8, .ref h9])), (h6, .inl (y1, 32768, .inl f1)), (h9, .inr (9, [.ref h10, .ref h11, .int x6, .int x7, .int x8, .int x9])), (h11, .inl (y2, 3, .inl f2)), (h10, .inl (y3, 3, .inl f3)), (h8, .inr (5, [.int x10, .int x11, .int x12, .int x13, .int x14, .int x15])), (h7, .inr (7, [.int x16, .int x17, .int x18, .int x19, .int x20]))]) hP hD (by subst enf6; rfl)
  refine lv_iinc (v := 6) (lv' := [(1, .int 6), (0, .ref h0)]) hx hb dX2_restart_15 hl (k := 0) rfl (by decide) (by decide) rfl (fun ls hl => ?_)
  refine lv_goto (tgt := 2) hx hb dX2_restart_18 (by decide) ?_
  refine lv_iload_n hx hb dX2_restart_2 rfl (lv_at hl 0 rfl) ?_
  refine lv_bipush (v := 16) hx hb dX2_restart_3 (by decide) ?_
  refine lv_icmp_ge (tgt := 21) hx hb dX2_restart_5 (by decide) (fun c => absurd c (by decide)) (fun _ => ?_)
  refine lv_aload_n hx hb dX2_restart_8 rfl (lv_at hl 1 rfl) ?_
  refine va_get (D := (dC, dI)) (ci := 2) (v := .ref h1) (C := RX2) (T := TX2) (N := 8) hx hb hG inGX2 hown hK hP 0 rfl rfl 0 (by decide) (hG _ wd_149) (fun _ h9 => h9) rfl dX2_restart_9 ?_
  refine lv_iload_n hx hb dX2_restart_12 rfl (lv_at hl 0 rfl) ?_
  refine lv_iconst (v := 0) hx hb dX2_restart_13 (by decide) ?_
  refine va_iast hx hb hK hP hD hS 1 0 rfl rfl (iv_in (by decide : iv 6 6 6) (by decide) (by decide) : vp_in 6 16) dX2_restart_14 (fun H locs hP hD hS => ?_)
  obtain ⟨nf7, enf7⟩ : ∃ z, z = upd nf6 (6 : Int32).toNatClampNeg 0 := ⟨_, rfl⟩
  obtain ⟨hP, hD⟩ := nv_eq (ws' := [(h0, .inr (2, [.ref h1, .ref h2, .ref h3, .int x0, .int x1, .int x2, .int x3, .int x4])), (h1, .inl (y0, 16, .inl nf7)), (h2, .inr (3, [.ref h4, .ref h5, .int x5])), (h3, .inr (1, [.ref h6, .ref h7, .ref h8, .ref h9])), (h6, .inl (y1, 32768, .inl f1)), (h9, .inr (9, [.ref h10, .ref h11, .int x6, .int x7, .int x8, .int x9])), (h11, .inl (y2, 3, .inl f2)), (h10, .inl (y3, 3, .inl f3)), (h8, .inr (5, [.int x10, .int x11, .int x12, .int x13, .int x14, .int x15])), (h7, .inr (7, [.int x16, .int x17, .int x18, .int x19, .int x20]))]) hP hD (by subst enf7; rfl)
  refine lv_iinc (v := 7) (lv' := [(1, .int 7), (0, .ref h0)]) hx hb dX2_restart_15 hl (k := 0) rfl (by decide) (by decide) rfl (fun ls hl => ?_)
  refine lv_goto (tgt := 2) hx hb dX2_restart_18 (by decide) ?_
  refine lv_iload_n hx hb dX2_restart_2 rfl (lv_at hl 0 rfl) ?_
  refine lv_bipush (v := 16) hx hb dX2_restart_3 (by decide) ?_
  refine lv_icmp_ge (tgt := 21) hx hb dX2_restart_5 (by decide) (fun c => absurd c (by decide)) (fun _ => ?_)
  refine lv_aload_n hx hb dX2_restart_8 rfl (lv_at hl 1 rfl) ?_
  refine va_get (D := (dC, dI)) (ci := 2) (v := .ref h1) (C := RX2) (T := TX2) (N := 8) hx hb hG inGX2 hown hK hP 0 rfl rfl 0 (by decide) (hG _ wd_149) (fun _ h9 => h9) rfl dX2_restart_9 ?_
  refine lv_iload_n hx hb dX2_restart_12 rfl (lv_at hl 0 rfl) ?_
  refine lv_iconst (v := 0) hx hb dX2_restart_13 (by decide) ?_
  refine va_iast hx hb hK hP hD hS 1 0 rfl rfl (iv_in (by decide : iv 7 7 7) (by decide) (by decide) : vp_in 7 16) dX2_restart_14 (fun H locs hP hD hS => ?_)
  obtain ⟨nf8, enf8⟩ : ∃ z, z = upd nf7 (7 : Int32).toNatClampNeg 0 := ⟨_, rfl⟩
  obtain ⟨hP, hD⟩ := nv_eq (ws' := [(h0, .inr (2, [.ref h1, .ref h2, .ref h3, .int x0, .int x1, .int x2, .int x3, .int x4])), (h1, .inl (y0, 16, .inl nf8)), (h2, .inr (3, [.ref h4, .ref h5, .int x5])), (h3, .inr (1, [.ref h6, .ref h7, .ref h8, .ref h9])), (h6, .inl (y1, 32768, .inl f1)), (h9, .inr (9, [.ref h10, .ref h11, .int x6, .int x7, .int x8, .int x9])), (h11, .inl (y2, 3, .inl f2)), (h10, .inl (y3, 3, .inl f3)), (h8, .inr (5, [.int x10, .int x11, .int x12, .int x13, .int x14, .int x15])), (h7, .inr (7, [.int x16, .int x17, .int x18, .int x19, .int x20]))]) hP hD (by subst enf8; rfl)
  refine lv_iinc (v := 8) (lv' := [(1, .int 8), (0, .ref h0)]) hx hb dX2_restart_15 hl (k := 0) rfl (by decide) (by decide) rfl (fun ls hl => ?_)
  refine lv_goto (tgt := 2) hx hb dX2_restart_18 (by decide) ?_
  refine lv_iload_n hx hb dX2_restart_2 rfl (lv_at hl 0 rfl) ?_
  refine lv_bipush (v := 16) hx hb dX2_restart_3 (by decide) ?_
  refine lv_icmp_ge (tgt := 21) hx hb dX2_restart_5 (by decide) (fun c => absurd c (by decide)) (fun _ => ?_)
  refine lv_aload_n hx hb dX2_restart_8 rfl (lv_at hl 1 rfl) ?_
  refine va_get (D := (dC, dI)) (ci := 2) (v := .ref h1) (C := RX2) (T := TX2) (N := 8) hx hb hG inGX2 hown hK hP 0 rfl rfl 0 (by decide) (hG _ wd_149) (fun _ h9 => h9) rfl dX2_restart_9 ?_
  refine lv_iload_n hx hb dX2_restart_12 rfl (lv_at hl 0 rfl) ?_
  refine lv_iconst (v := 0) hx hb dX2_restart_13 (by decide) ?_
  refine va_iast hx hb hK hP hD hS 1 0 rfl rfl (iv_in (by decide : iv 8 8 8) (by decide) (by decide) : vp_in 8 16) dX2_restart_14 (fun H locs hP hD hS => ?_)
  obtain ⟨nf9, enf9⟩ : ∃ z, z = upd nf8 (8 : Int32).toNatClampNeg 0 := ⟨_, rfl⟩
  obtain ⟨hP, hD⟩ := nv_eq (ws' := [(h0, .inr (2, [.ref h1, .ref h2, .ref h3, .int x0, .int x1, .int x2, .int x3, .int x4])), (h1, .inl (y0, 16, .inl nf9)), (h2, .inr (3, [.ref h4, .ref h5, .int x5])), (h3, .inr (1, [.ref h6, .ref h7, .ref h8, .ref h9])), (h6, .inl (y1, 32768, .inl f1)), (h9, .inr (9, [.ref h10, .ref h11, .int x6, .int x7, .int x8, .int x9])), (h11, .inl (y2, 3, .inl f2)), (h10, .inl (y3, 3, .inl f3)), (h8, .inr (5, [.int x10, .int x11, .int x12, .int x13, .int x14, .int x15])), (h7, .inr (7, [.int x16, .int x17, .int x18, .int x19, .int x20]))]) hP hD (by subst enf9; rfl)
  refine lv_iinc (v := 9) (lv' := [(1, .int 9), (0, .ref h0)]) hx hb dX2_restart_15 hl (k := 0) rfl (by decide) (by decide) rfl (fun ls hl => ?_)
  refine lv_goto (tgt := 2) hx hb dX2_restart_18 (by decide) ?_
  refine lv_iload_n hx hb dX2_restart_2 rfl (lv_at hl 0 rfl) ?_
  refine lv_bipush (v := 16) hx hb dX2_restart_3 (by decide) ?_
  refine lv_icmp_ge (tgt := 21) hx hb dX2_restart_5 (by decide) (fun c => absurd c (by decide)) (fun _ => ?_)
  refine lv_aload_n hx hb dX2_restart_8 rfl (lv_at hl 1 rfl) ?_
  refine va_get (D := (dC, dI)) (ci := 2) (v := .ref h1) (C := RX2) (T := TX2) (N := 8) hx hb hG inGX2 hown hK hP 0 rfl rfl 0 (by decide) (hG _ wd_149) (fun _ h9 => h9) rfl dX2_restart_9 ?_
  refine lv_iload_n hx hb dX2_restart_12 rfl (lv_at hl 0 rfl) ?_
  refine lv_iconst (v := 0) hx hb dX2_restart_13 (by decide) ?_
  refine va_iast hx hb hK hP hD hS 1 0 rfl rfl (iv_in (by decide : iv 9 9 9) (by decide) (by decide) : vp_in 9 16) dX2_restart_14 (fun H locs hP hD hS => ?_)
  obtain ⟨nf10, enf10⟩ : ∃ z, z = upd nf9 (9 : Int32).toNatClampNeg 0 := ⟨_, rfl⟩
  obtain ⟨hP, hD⟩ := nv_eq (ws' := [(h0, .inr (2, [.ref h1, .ref h2, .ref h3, .int x0, .int x1, .int x2, .int x3, .int x4])), (h1, .inl (y0, 16, .inl nf10)), (h2, .inr (3, [.ref h4, .ref h5, .int x5])), (h3, .inr (1, [.ref h6, .ref h7, .ref h8, .ref h9])), (h6, .inl (y1, 32768, .inl f1)), (h9, .inr (9, [.ref h10, .ref h11, .int x6, .int x7, .int x8, .int x9])), (h11, .inl (y2, 3, .inl f2)), (h10, .inl (y3, 3, .inl f3)), (h8, .inr (5, [.int x10, .int x11, .int x12, .int x13, .int x14, .int x15])), (h7, .inr (7, [.int x16, .int x17, .int x18, .int x19, .int x20]))]) hP hD (by subst enf10; rfl)
  refine lv_iinc (v := 10) (lv' := [(1, .int 10), (0, .ref h0)]) hx hb dX2_restart_15 hl (k := 0) rfl (by decide) (by decide) rfl (fun ls hl => ?_)
  refine lv_goto (tgt := 2) hx hb dX2_restart_18 (by decide) ?_
  refine lv_iload_n hx hb dX2_restart_2 rfl (lv_at hl 0 rfl) ?_
  refine lv_bipush (v := 16) hx hb dX2_restart_3 (by decide) ?_
  refine lv_icmp_ge (tgt := 21) hx hb dX2_restart_5 (by decide) (fun c => absurd c (by decide)) (fun _ => ?_)
  refine lv_aload_n hx hb dX2_restart_8 rfl (lv_at hl 1 rfl) ?_
  refine va_get (D := (dC, dI)) (ci := 2) (v := .ref h1) (C := RX2) (T := TX2) (N := 8) hx hb hG inGX2 hown hK hP 0 rfl rfl 0 (by decide) (hG _ wd_149) (fun _ h9 => h9) rfl dX2_restart_9 ?_
  refine lv_iload_n hx hb dX2_restart_12 rfl (lv_at hl 0 rfl) ?_
  refine lv_iconst (v := 0) hx hb dX2_restart_13 (by decide) ?_
  refine va_iast hx hb hK hP hD hS 1 0 rfl rfl (iv_in (by decide : iv 10 10 10) (by decide) (by decide) : vp_in 10 16) dX2_restart_14 (fun H locs hP hD hS => ?_)
  obtain ⟨nf11, enf11⟩ : ∃ z, z = upd nf10 (10 : Int32).toNatClampNeg 0 := ⟨_, rfl⟩
  obtain ⟨hP, hD⟩ := nv_eq (ws' := [(h0, .inr (2, [.ref h1, .ref h2, .ref h3, .int x0, .int x1, .int x2, .int x3, .int x4])), (h1, .inl (y0, 16, .inl nf11)), (h2, .inr (3, [.ref h4, .ref h5, .int x5])), (h3, .inr (1, [.ref h6, .ref h7, .ref h8, .ref h9])), (h6, .inl (y1, 32768, .inl f1)), (h9, .inr (9, [.ref h10, .ref h11, .int x6, .int x7, .int x8, .int x9])), (h11, .inl (y2, 3, .inl f2)), (h10, .inl (y3, 3, .inl f3)), (h8, .inr (5, [.int x10, .int x11, .int x12, .int x13, .int x14, .int x15])), (h7, .inr (7, [.int x16, .int x17, .int x18, .int x19, .int x20]))]) hP hD (by subst enf11; rfl)
  refine lv_iinc (v := 11) (lv' := [(1, .int 11), (0, .ref h0)]) hx hb dX2_restart_15 hl (k := 0) rfl (by decide) (by decide) rfl (fun ls hl => ?_)
  refine lv_goto (tgt := 2) hx hb dX2_restart_18 (by decide) ?_
  refine lv_iload_n hx hb dX2_restart_2 rfl (lv_at hl 0 rfl) ?_
  refine lv_bipush (v := 16) hx hb dX2_restart_3 (by decide) ?_
  refine lv_icmp_ge (tgt := 21) hx hb dX2_restart_5 (by decide) (fun c => absurd c (by decide)) (fun _ => ?_)
  refine lv_aload_n hx hb dX2_restart_8 rfl (lv_at hl 1 rfl) ?_
  refine va_get (D := (dC, dI)) (ci := 2) (v := .ref h1) (C := RX2) (T := TX2) (N := 8) hx hb hG inGX2 hown hK hP 0 rfl rfl 0 (by decide) (hG _ wd_149) (fun _ h9 => h9) rfl dX2_restart_9 ?_
  refine lv_iload_n hx hb dX2_restart_12 rfl (lv_at hl 0 rfl) ?_
  refine lv_iconst (v := 0) hx hb dX2_restart_13 (by decide) ?_
  refine va_iast hx hb hK hP hD hS 1 0 rfl rfl (iv_in (by decide : iv 11 11 11) (by decide) (by decide) : vp_in 11 16) dX2_restart_14 (fun H locs hP hD hS => ?_)
  obtain ⟨nf12, enf12⟩ : ∃ z, z = upd nf11 (11 : Int32).toNatClampNeg 0 := ⟨_, rfl⟩
  obtain ⟨hP, hD⟩ := nv_eq (ws' := [(h0, .inr (2, [.ref h1, .ref h2, .ref h3, .int x0, .int x1, .int x2, .int x3, .int x4])), (h1, .inl (y0, 16, .inl nf12)), (h2, .inr (3, [.ref h4, .ref h5, .int x5])), (h3, .inr (1, [.ref h6, .ref h7, .ref h8, .ref h9])), (h6, .inl (y1, 32768, .inl f1)), (h9, .inr (9, [.ref h10, .ref h11, .int x6, .int x7, .int x8, .int x9])), (h11, .inl (y2, 3, .inl f2)), (h10, .inl (y3, 3, .inl f3)), (h8, .inr (5, [.int x10, .int x11, .int x12, .int x13, .int x14, .int x15])), (h7, .inr (7, [.int x16, .int x17, .int x18, .int x19, .int x20]))]) hP hD (by subst enf12; rfl)
  refine lv_iinc (v := 12) (lv' := [(1, .int 12), (0, .ref h0)]) hx hb dX2_restart_15 hl (k := 0) rfl (by decide) (by decide) rfl (fun ls hl => ?_)
  refine lv_goto (tgt := 2) hx hb dX2_restart_18 (by decide) ?_
  refine lv_iload_n hx hb dX2_restart_2 rfl (lv_at hl 0 rfl) ?_
  refine lv_bipush (v := 16) hx hb dX2_restart_3 (by decide) ?_
  refine lv_icmp_ge (tgt := 21) hx hb dX2_restart_5 (by decide) (fun c => absurd c (by decide)) (fun _ => ?_)
  refine lv_aload_n hx hb dX2_restart_8 rfl (lv_at hl 1 rfl) ?_
  refine va_get (D := (dC, dI)) (ci := 2) (v := .ref h1) (C := RX2) (T := TX2) (N := 8) hx hb hG inGX2 hown hK hP 0 rfl rfl 0 (by decide) (hG _ wd_149) (fun _ h9 => h9) rfl dX2_restart_9 ?_
  refine lv_iload_n hx hb dX2_restart_12 rfl (lv_at hl 0 rfl) ?_
  refine lv_iconst (v := 0) hx hb dX2_restart_13 (by decide) ?_
  refine va_iast hx hb hK hP hD hS 1 0 rfl rfl (iv_in (by decide : iv 12 12 12) (by decide) (by decide) : vp_in 12 16) dX2_restart_14 (fun H locs hP hD hS => ?_)
  obtain ⟨nf13, enf13⟩ : ∃ z, z = upd nf12 (12 : Int32).toNatClampNeg 0 := ⟨_, rfl⟩
  obtain ⟨hP, hD⟩ := nv_eq (ws' := [(h0, .inr (2, [.ref h1, .ref h2, .ref h3, .int x0, .int x1, .int x2, .int x3, .int x4])), (h1, .inl (y0, 16, .inl nf13)), (h2, .inr (3, [.ref h4, .ref h5, .int x5])), (h3, .inr (1, [.ref h6, .ref h7, .ref h8, .ref h9])), (h6, .inl (y1, 32768, .inl f1)), (h9, .inr (9, [.ref h10, .ref h11, .int x6, .int x7, .int x8, .int x9])), (h11, .inl (y2, 3, .inl f2)), (h10, .inl (y3, 3, .inl f3)), (h8, .inr (5, [.int x10, .int x11, .int x12, .int x13, .int x14, .int x15])), (h7, .inr (7, [.int x16, .int x17, .int x18, .int x19, .int x20]))]) hP hD (by subst enf13; rfl)
  refine lv_iinc (v := 13) (lv' := [(1, .int 13), (0, .ref h0)]) hx hb dX2_restart_15 hl (k := 0) rfl (by decide) (by decide) rfl (fun ls hl => ?_)
  refine lv_goto (tgt := 2) hx hb dX2_restart_18 (by decide) ?_
  refine lv_iload_n hx hb dX2_restart_2 rfl (lv_at hl 0 rfl) ?_
  refine lv_bipush (v := 16) hx hb dX2_restart_3 (by decide) ?_
  refine lv_icmp_ge (tgt := 21) hx hb dX2_restart_5 (by decide) (fun c => absurd c (by decide)) (fun _ => ?_)
  refine lv_aload_n hx hb dX2_restart_8 rfl (lv_at hl 1 rfl) ?_
  refine va_get (D := (dC, dI)) (ci := 2) (v := .ref h1) (C := RX2) (T := TX2) (N := 8) hx hb hG inGX2 hown hK hP 0 rfl rfl 0 (by decide) (hG _ wd_149) (fun _ h9 => h9) rfl dX2_restart_9 ?_
  refine lv_iload_n hx hb dX2_restart_12 rfl (lv_at hl 0 rfl) ?_
  refine lv_iconst (v := 0) hx hb dX2_restart_13 (by decide) ?_
  refine va_iast hx hb hK hP hD hS 1 0 rfl rfl (iv_in (by decide : iv 13 13 13) (by decide) (by decide) : vp_in 13 16) dX2_restart_14 (fun H locs hP hD hS => ?_)
  obtain ⟨nf14, enf14⟩ : ∃ z, z = upd nf13 (13 : Int32).toNatClampNeg 0 := ⟨_, rfl⟩
  obtain ⟨hP, hD⟩ := nv_eq (ws' := [(h0, .inr (2, [.ref h1, .ref h2, .ref h3, .int x0, .int x1, .int x2, .int x3, .int x4])), (h1, .inl (y0, 16, .inl nf14)), (h2, .inr (3, [.ref h4, .ref h5, .int x5])), (h3, .inr (1, [.ref h6, .ref h7, .ref h8, .ref h9])), (h6, .inl (y1, 32768, .inl f1)), (h9, .inr (9, [.ref h10, .ref h11, .int x6, .int x7, .int x8, .int x9])), (h11, .inl (y2, 3, .inl f2)), (h10, .inl (y3, 3, .inl f3)), (h8, .inr (5, [.int x10, .int x11, .int x12, .int x13, .int x14, .int x15])), (h7, .inr (7, [.int x16, .int x17, .int x18, .int x19, .int x20]))]) hP hD (by subst enf14; rfl)
  refine lv_iinc (v := 14) (lv' := [(1, .int 14), (0, .ref h0)]) hx hb dX2_restart_15 hl (k := 0) rfl (by decide) (by decide) rfl (fun ls hl => ?_)
  refine lv_goto (tgt := 2) hx hb dX2_restart_18 (by decide) ?_
  refine lv_iload_n hx hb dX2_restart_2 rfl (lv_at hl 0 rfl) ?_
  refine lv_bipush (v := 16) hx hb dX2_restart_3 (by decide) ?_
  refine lv_icmp_ge (tgt := 21) hx hb dX2_restart_5 (by decide) (fun c => absurd c (by decide)) (fun _ => ?_)
  refine lv_aload_n hx hb dX2_restart_8 rfl (lv_at hl 1 rfl) ?_
  refine va_get (D := (dC, dI)) (ci := 2) (v := .ref h1) (C := RX2) (T := TX2) (N := 8) hx hb hG inGX2 hown hK hP 0 rfl rfl 0 (by decide) (hG _ wd_149) (fun _ h9 => h9) rfl dX2_restart_9 ?_
  refine lv_iload_n hx hb dX2_restart_12 rfl (lv_at hl 0 rfl) ?_
  refine lv_iconst (v := 0) hx hb dX2_restart_13 (by decide) ?_
  refine va_iast hx hb hK hP hD hS 1 0 rfl rfl (iv_in (by decide : iv 14 14 14) (by decide) (by decide) : vp_in 14 16) dX2_restart_14 (fun H locs hP hD hS => ?_)
  obtain ⟨nf15, enf15⟩ : ∃ z, z = upd nf14 (14 : Int32).toNatClampNeg 0 := ⟨_, rfl⟩
  obtain ⟨hP, hD⟩ := nv_eq (ws' := [(h0, .inr (2, [.ref h1, .ref h2, .ref h3, .int x0, .int x1, .int x2, .int x3, .int x4])), (h1, .inl (y0, 16, .inl nf15)), (h2, .inr (3, [.ref h4, .ref h5, .int x5])), (h3, .inr (1, [.ref h6, .ref h7, .ref h8, .ref h9])), (h6, .inl (y1, 32768, .inl f1)), (h9, .inr (9, [.ref h10, .ref h11, .int x6, .int x7, .int x8, .int x9])), (h11, .inl (y2, 3, .inl f2)), (h10, .inl (y3, 3, .inl f3)), (h8, .inr (5, [.int x10, .int x11, .int x12, .int x13, .int x14, .int x15])), (h7, .inr (7, [.int x16, .int x17, .int x18, .int x19, .int x20]))]) hP hD (by subst enf15; rfl)
  refine lv_iinc (v := 15) (lv' := [(1, .int 15), (0, .ref h0)]) hx hb dX2_restart_15 hl (k := 0) rfl (by decide) (by decide) rfl (fun ls hl => ?_)
  refine lv_goto (tgt := 2) hx hb dX2_restart_18 (by decide) ?_
  refine lv_iload_n hx hb dX2_restart_2 rfl (lv_at hl 0 rfl) ?_
  refine lv_bipush (v := 16) hx hb dX2_restart_3 (by decide) ?_
  refine lv_icmp_ge (tgt := 21) hx hb dX2_restart_5 (by decide) (fun c => absurd c (by decide)) (fun _ => ?_)
  refine lv_aload_n hx hb dX2_restart_8 rfl (lv_at hl 1 rfl) ?_
  refine va_get (D := (dC, dI)) (ci := 2) (v := .ref h1) (C := RX2) (T := TX2) (N := 8) hx hb hG inGX2 hown hK hP 0 rfl rfl 0 (by decide) (hG _ wd_149) (fun _ h9 => h9) rfl dX2_restart_9 ?_
  refine lv_iload_n hx hb dX2_restart_12 rfl (lv_at hl 0 rfl) ?_
  refine lv_iconst (v := 0) hx hb dX2_restart_13 (by decide) ?_
  refine va_iast hx hb hK hP hD hS 1 0 rfl rfl (iv_in (by decide : iv 15 15 15) (by decide) (by decide) : vp_in 15 16) dX2_restart_14 (fun H locs hP hD hS => ?_)
  obtain ⟨nf16, enf16⟩ : ∃ z, z = upd nf15 (15 : Int32).toNatClampNeg 0 := ⟨_, rfl⟩
  obtain ⟨hP, hD⟩ := nv_eq (ws' := [(h0, .inr (2, [.ref h1, .ref h2, .ref h3, .int x0, .int x1, .int x2, .int x3, .int x4])), (h1, .inl (y0, 16, .inl nf16)), (h2, .inr (3, [.ref h4, .ref h5, .int x5])), (h3, .inr (1, [.ref h6, .ref h7, .ref h8, .ref h9])), (h6, .inl (y1, 32768, .inl f1)), (h9, .inr (9, [.ref h10, .ref h11, .int x6, .int x7, .int x8, .int x9])), (h11, .inl (y2, 3, .inl f2)), (h10, .inl (y3, 3, .inl f3)), (h8, .inr (5, [.int x10, .int x11, .int x12, .int x13, .int x14, .int x15])), (h7, .inr (7, [.int x16, .int x17, .int x18, .int x19, .int x20]))]) hP hD (by subst enf16; rfl)
  refine lv_iinc (v := 16) (lv' := [(1, .int 16), (0, .ref h0)]) hx hb dX2_restart_15 hl (k := 0) rfl (by decide) (by decide) rfl (fun ls hl => ?_)
  refine lv_goto (tgt := 2) hx hb dX2_restart_18 (by decide) ?_
  refine lv_iload_n hx hb dX2_restart_2 rfl (lv_at hl 0 rfl) ?_
  refine lv_bipush (v := 16) hx hb dX2_restart_3 (by decide) ?_
  refine lv_icmp_ge (tgt := 21) hx hb dX2_restart_5 (by decide) (fun _ => ?_) (fun c => absurd (by decide) c)
  refine lv_aload_n hx hb dX2_restart_21 rfl (lv_at hl 1 rfl) ?_
  refine va_get (D := (dC, dI)) (ci := 2) (v := .ref h2) (C := RX2) (T := TX2) (N := 8) hx hb hG inGX2 hown hK hP 0 rfl rfl 1 (by decide) (hG _ wd_150) (fun _ h9 => h9) rfl dX2_restart_22 ?_
  obtain ⟨hPc, hDc, hFc⟩ := nv_sub3 (wc := [(h2, .inr (3, [.ref h4, .ref h5, .int x5]))]) hP hD hS hA [2] (by decide) rfl
  have hKc := hK.sub (tys' := []) [] rfl
  refine va_callv (va_runV (As := []) (rest := []) ⟨hx, hb, hml, hown, hG⟩ (cX3_clear_1 l dC dI h2 h4 h5 H.size x5 ix5) (cwV 0 hG (gV wd_816 wd_817 wd_818 wd_7 wd_819) rfl rfl rfl (by decide +kernel) ⟨Nat.le_of_ble_eq_true rfl, Nat.le_of_ble_eq_true rfl⟩) ⟨fun a U g mk q => by obtain ⟨q0, q1, qP, qK, qD⟩ := q; exact ⟨q0, q1, qP, va_K.moved (u := U) (U := U.calling g mk a) (Vm.Alike.refl U.vm) qK, qD⟩, va_recv hKc hPc (ci := 3) (q0 := 0) rfl rfl, fun U hU hW => ⟨rfl, by rw [hU], by rw [hU]; exact hPc, va_K.moved hW.alike hKc, hDc.weaken (fun _ _ _ _ => trivial)⟩⟩ rfl rfl hl.1 rfl (lv_room (Nat.le_of_ble_eq_true rfl)) dX2_restart_25 ⟨by decide, by decide⟩) hS (fun q _ h => hFc q h) hFc (fun u18 t H1 locs ht hvm hw hB hz1 hk1 hS => ?_)
  obtain ⟨hP1, hK1, hD1⟩ := hB
  rw [ht] at hP1
  have hK1 := va_K.moved hvm.symm hK1
  obtain ⟨hP, hD⟩ := nv_join (wf := [(h0, .inr (2, [.ref h1, .ref h2, .ref h3, .int x0, .int x1, .int x2, .int x3, .int x4])), (h1, .inl (y0, 16, .inl nf16)), (h3, .inr (1, [.ref h6, .ref h7, .ref h8, .ref h9])), (h6, .inl (y1, 32768, .inl f1)), (h9, .inr (9, [.ref h10, .ref h11, .int x6, .int x7, .int x8, .int x9])), (h11, .inl (y2, 3, .inl f2)), (h10, .inl (y3, 3, .inl f3)), (h8, .inr (5, [.int x10, .int x11, .int x12, .int x13, .int x14, .int x15])), (h7, .inr (7, [.int x16, .int x17, .int x18, .int x19, .int x20])), (h2, .inr (3, [.ref h4, .ref h5, .int 0]))]) hP hD [2] [0, 1, 3, 4, 5, 6, 7, 8, 9] rfl rfl (by decide) (by decide) hk1 hFc hP1 hD1 rfl
  have hK := (hK.sub (tys' := [(y0, .int), (y1, .int), (y2, .int), (y3, .int)]) [0, 1, 2, 3] rfl).app hK1
  generalize H1 = H at hP hS ⊢
  have hK : va_K (dC, dI) vwCl [(y0, .int), (y1, .int), (y2, .int), (y3, .int)] s := hK
  refine lv_aload_n hx hb dX2_restart_28 rfl (lv_at hl 1 rfl) ?_
  refine lv_iconst (v := 0) hx hb dX2_restart_29 (by decide) ?_
  refine va_put (D := (dC, dI)) (ci := 2) (v := .int 0) (ty := .int) (C := RX2) (T := TX2) (N := 8) hx hb hG inGX2 tyX2 tyX2_ok nmX2 hown hK hP hD hS 0 rfl rfl 3 (by decide) (hG _ wd_152) (fun _ h9 => h9) rfl (by decide +kernel) rfl rfl (Nat.le_of_ble_eq_true rfl) dX2_restart_30 (fun H locs hP hD hS => ?_)
  obtain ⟨hP, hD⟩ := nv_eq (ws' := [(h0, .inr (2, [.ref h1, .ref h2, .ref h3, .int 0, .int x1, .int x2, .int x3, .int x4])), (h1, .inl (y0, 16, .inl nf16)), (h3, .inr (1, [.ref h6, .ref h7, .ref h8, .ref h9])), (h6, .inl (y1, 32768, .inl f1)), (h9, .inr (9, [.ref h10, .ref h11, .int x6, .int x7, .int x8, .int x9])), (h11, .inl (y2, 3, .inl f2)), (h10, .inl (y3, 3, .inl f3)), (h8, .inr (5, [.int x10, .int x11, .int x12, .int x13, .int x14, .int x15])), (h7, .inr (7, [.int x16, .int x17, .int x18, .int x19, .int x20])), (h2, .inr (3, [.ref h4, .ref h5, .int 0]))]) hP hD rfl
  refine lv_aload_n hx hb dX2_restart_33 rfl (lv_at hl 1 rfl) ?_
  refine lv_iconst (v := 0) hx hb dX2_restart_34 (by decide) ?_
  refine va_put (D := (dC, dI)) (ci := 2) (v := .int 0) (ty := .int) (C := RX2) (T := TX2) (N := 8) hx hb hG inGX2 tyX2 tyX2_ok nmX2 hown hK hP hD hS 0 rfl rfl 4 (by decide) (hG _ wd_153) (fun _ h9 => h9) rfl (by decide +kernel) rfl rfl (Nat.le_of_ble_eq_true rfl) dX2_restart_35 (fun H locs hP hD hS => ?_)
  obtain ⟨hP, hD⟩ := nv_eq (ws' := [(h0, .inr (2, [.ref h1, .ref h2, .ref h3, .int 0, .int 0, .int x2, .int x3, .int x4])), (h1, .inl (y0, 16, .inl nf16)), (h3, .inr (1, [.ref h6, .ref h7, .ref h8, .ref h9])), (h6, .inl (y1, 32768, .inl f1)), (h9, .inr (9, [.ref h10, .ref h11, .int x6, .int x7, .int x8, .int x9])), (h11, .inl (y2, 3, .inl f2)), (h10, .inl (y3, 3, .inl f3)), (h8, .inr (5, [.int x10, .int x11, .int x12, .int x13, .int x14, .int x15])), (h7, .inr (7, [.int x16, .int x17, .int x18, .int x19, .int x20])), (h2, .inr (3, [.ref h4, .ref h5, .int 0]))]) hP hD rfl
  refine lv_aload_n hx hb dX2_restart_38 rfl (lv_at hl 1 rfl) ?_
  refine lv_iconst (v := 0) hx hb dX2_restart_39 (by decide) ?_
  refine va_put (D := (dC, dI)) (ci := 2) (v := .int 0) (ty := .int) (C := RX2) (T := TX2) (N := 8) hx hb hG inGX2 tyX2 tyX2_ok nmX2 hown hK hP hD hS 0 rfl rfl 5 (by decide) (hG _ wd_154) (fun _ h9 => h9) rfl (by decide +kernel) rfl rfl (Nat.le_of_ble_eq_true rfl) dX2_restart_40 (fun H locs hP hD hS => ?_)
  obtain ⟨hP, hD⟩ := nv_eq (ws' := [(h0, .inr (2, [.ref h1, .ref h2, .ref h3, .int 0, .int 0, .int 0, .int x3, .int x4])), (h1, .inl (y0, 16, .inl nf16)), (h3, .inr (1, [.ref h6, .ref h7, .ref h8, .ref h9])), (h6, .inl (y1, 32768, .inl f1)), (h9, .inr (9, [.ref h10, .ref h11, .int x6, .int x7, .int x8, .int x9])), (h11, .inl (y2, 3, .inl f2)), (h10, .inl (y3, 3, .inl f3)), (h8, .inr (5, [.int x10, .int x11, .int x12, .int x13, .int x14, .int x15])), (h7, .inr (7, [.int x16, .int x17, .int x18, .int x19, .int x20])), (h2, .inr (3, [.ref h4, .ref h5, .int 0]))]) hP hD rfl
  refine lv_aload_n hx hb dX2_restart_43 rfl (lv_at hl 1 rfl) ?_
  refine lv_iconst (v := 0) hx hb dX2_restart_44 (by decide) ?_
  refine lv_aload_n hx hb dX2_restart_45 rfl (lv_at hl 1 rfl) ?_
  refine va_get (D := (dC, dI)) (ci := 2) (v := .ref h3) (C := RX2) (T := TX2) (N := 8) hx hb hG inGX2 hown hK hP 0 rfl rfl 2 (by decide) (hG _ wd_151) (fun _ h9 => h9) rfl dX2_restart_46 ?_
  refine lv_ldc hx hb hown (hG _ wd_820) dX2_restart_49 ?_
  obtain ⟨hPc, hDc, hFc⟩ := nv_sub3 (wc := [(h3, .inr (1, [.ref h6, .ref h7, .ref h8, .ref h9])), (h6, .inl (y1, 32768, .inl f1)), (h9, .inr (9, [.ref h10, .ref h11, .int x6, .int x7, .int x8, .int x9])), (h11, .inl (y2, 3, .inl f2)), (h10, .inl (y3, 3, .inl f3)), (h8, .inr (5, [.int x10, .int x11, .int x12, .int x13, .int x14, .int x15])), (h7, .inr (7, [.int x16, .int x17, .int x18, .int x19, .int x20]))]) hP hD hS hA [2, 3, 4, 5, 6, 7, 8] (by decide) rfl
  have hKc := hK.sub (tys' := [(y1, .int), (y2, .int), (y3, .int)]) [1, 2, 3] rfl
  refine va_calli (va_runV (As := [.int 65534]) (rest := [.int 0, .ref h0]) ⟨hx, hb, hml, hown, hG⟩ (cX1_lookWord_1 l dC dI h3 h6 h7 h8 h9 h10 h11 y1 y2 y3 H.size 65534 x6 x7 x8 x9 x10 x11 x12 x13 x14 x15 x16 x17 x18 x19 x20 f1 f2 f3 ix9) (cwV 1 hG (gV wd_821 wd_822 wd_823 wd_2 wd_824) rfl rfl rfl (by decide +kernel) ⟨Nat.le_of_ble_eq_true rfl, Nat.le_of_ble_eq_true rfl⟩) ⟨fun a U g mk q => by obtain ⟨q0, q1, qP, qK, qD⟩ := q; exact ⟨q0, q1, qP, va_K.moved (u := U) (U := U.calling g mk a) (Vm.Alike.refl U.vm) qK, qD⟩, va_recv hKc hPc (ci := 1) (q0 := 0) rfl rfl, fun U hU hW => ⟨rfl, by rw [hU], by rw [hU]; exact hPc, va_K.moved hW.alike hKc, hDc.weaken (fun _ _ _ _ => trivial)⟩⟩ rfl rfl hl.1 rfl (lv_room (Nat.le_of_ble_eq_true rfl)) dX2_restart_51 ⟨by decide, by decide⟩) hS (fun q _ h => hFc q h) hFc (fun r19 u20 t H1 locs ht hvm hw hB hz1 hk1 hS => ?_)
  obtain ⟨hP1, hK1, hD1⟩ := hB
  rw [ht] at hP1
  have hK1 := va_K.moved hvm.symm hK1
  obtain ⟨hP, hD⟩ := nv_join (wf := [(h0, .inr (2, [.ref h1, .ref h2, .ref h3, .int 0, .int 0, .int 0, .int x3, .int x4])), (h1, .inl (y0, 16, .inl nf16)), (h2, .inr (3, [.ref h4, .ref h5, .int 0])), (h3, .inr (1, [.ref h6, .ref h7, .ref h8, .ref h9])), (h6, .inl (y1, 32768, .inl f1)), (h9, .inr (9, [.ref h10, .ref h11, .int x6, .int x7, .int x8, .int x9])), (h11, .inl (y2, 3, .inl f2)), (h10, .inl (y3, 3, .inl f3)), (h8, .inr (5, [.int x10, .int x11, .int x12, .int x13, .int x14, .int x15])), (h7, .inr (7, [.int x16, .int x17, .int x18, .int x19, .int x20]))]) hP hD [2, 3, 4, 5, 6, 7, 8] [0, 1, 9] rfl rfl (by decide) (by decide) hk1 hFc hP1 hD1 rfl
  have hK := (hK.sub (tys' := [(y0, .int)]) [0] rfl).app hK1
  generalize H1 = H at hP hS ⊢
  have hK : va_K (dC, dI) vwCl [(y0, .int), (y1, .int), (y2, .int), (y3, .int)] s := hK
  obtain ⟨hPc, hDc, hFc⟩ := nv_sub3 (wc := [(h0, .inr (2, [.ref h1, .ref h2, .ref h3, .int 0, .int 0, .int 0, .int x3, .int x4])), (h1, .inl (y0, 16, .inl nf16))]) hP hD hS hA [0, 1] (by decide) rfl
  have hKc := hK.sub (tys' := [(y0, .int)]) [0] rfl
  refine va_callv (va_runV (As := [.int 0, .int r19]) (rest := []) ⟨hx, hb, hml, hown, hG⟩ (cX2_writeRegister_1 l dC dI h0 h1 h2 h3 y0 H.size 0 r19 0 0 0 x3 x4 nf16 ix4) (cwV 2 hG (gV wd_825 wd_826 wd_827 wd_6 wd_828) rfl rfl rfl (by decide +kernel) ⟨Nat.le_of_ble_eq_true rfl, Nat.le_of_ble_eq_true rfl⟩) ⟨fun a U g mk q => by obtain ⟨q0, q1, qP, qK, qD⟩ := q; exact ⟨q0, q1, qP, va_K.moved (u := U) (U := U.calling g mk a) (Vm.Alike.refl U.vm) qK, qD⟩, va_recv hKc hPc (ci := 2) (q0 := 0) rfl rfl, fun U hU hW => ⟨rfl, by rw [hU], by rw [hU]; exact hPc, va_K.moved hW.alike hKc, hDc.weaken (fun _ _ _ _ => trivial)⟩⟩ rfl rfl hl.1 rfl (lv_room (Nat.le_of_ble_eq_true rfl)) dX2_restart_54 ⟨by decide, by decide⟩) hS (fun q _ h => hFc q h) hFc (fun u22 t H1 locs ht hvm hw hB hz1 hk1 hS => ?_)
  obtain ⟨u22_0, rfl⟩ : ∃ z, z = u22 := ⟨_, rfl⟩
  obtain ⟨hP1, hK1, hD1⟩ := hB
  rw [ht] at hP1
  have hK1 := va_K.moved hvm.symm hK1
  obtain ⟨hP, hD⟩ := nv_join (wf := [(h2, .inr (3, [.ref h4, .ref h5, .int 0])), (h3, .inr (1, [.ref h6, .ref h7, .ref h8, .ref h9])), (h6, .inl (y1, 32768, .inl f1)), (h9, .inr (9, [.ref h10, .ref h11, .int x6, .int x7, .int x8, .int x9])), (h11, .inl (y2, 3, .inl f2)), (h10, .inl (y3, 3, .inl f3)), (h8, .inr (5, [.int x10, .int x11, .int x12, .int x13, .int x14, .int x15])), (h7, .inr (7, [.int x16, .int x17, .int x18, .int x19, .int x20])), (h0, .inr (2, [.ref h1, .ref h2, .ref h3, .int 0, .int 0, .int 0, .int x3, .int x4])), (h1, .inl (y0, 16, .inl u22_0))]) hP hD [0, 1] [2, 3, 4, 5, 6, 7, 8, 9] rfl rfl (by decide) (by decide) hk1 hFc hP1 hD1 rfl
  have hK := (hK.sub (tys' := [(y1, .int), (y2, .int), (y3, .int)]) [1, 2, 3] rfl).app hK1
  generalize H1 = H at hP hS ⊢
  have hK : va_K (dC, dI) vwCl [(y1, .int), (y2, .int), (y3, .int), (y0, .int)] s := hK
  rw [hQ]
  obtain ⟨hP9, hD9⟩ := nv_sub2 (wc := [(h0, .inr (2, [.ref h1, .ref h2, .ref h3, .int 0, .int 0, .int 0, .int x3, .int x4])), (h1, .inl (y0, 16, .inl u22_0)), (h2, .inr (3, [.ref h4, .ref h5, .int 0])), (h3, .inr (1, [.ref h6, .ref h7, .ref h8, .ref h9])), (h6, .inl (y1, 32768, .inl f1)), (h9, .inr (9, [.ref h10, .ref h11, .int x6, .int x7, .int x8, .int x9])), (h11, .inl (y2, 3, .inl f2)), (h10, .inl (y3, 3, .inl f3)), (h8, .inr (5, [.int x10, .int x11, .int x12, .int x13, .int x14, .int x15])), (h7, .inr (7, [.int x16, .int x17, .int x18, .int x19, .int x20]))]) hP hD [8, 9, 0, 1, 2, 3, 4, 5, 6, 7] (by decide) rfl
  have hK9 := hK.sub (tys' := [(y0, .int), (y1, .int), (y2, .int), (y3, .int)]) [3, 0, 1, 2] rfl
  exact W.vret hx hb hr (fun t ht hW => ⟨⟨u22_0, rfl, trivial, by rw [ht]; exact hP9, va_K.moved hW.alike hK9, hD9⟩, hS.F ht⟩) hS.2.2 dX2_restart_57
set_option maxHeartbeats 100000000 in
set_option maxRecDepth 100000 in
theorem cX11_reset_1 (l : Launch) (dC : Nat → ClassId) (dI : Nat → Nat → Nat) (h0 h1 h2 h3 h4 h5 h6 h7 h8 h9 h10 h11 h12 h13 h14 h15 : Nat) (y0 y1 y2 y3 : ClassId) (sz : Nat) (x0 x1 x2 x3 x4 x5 x6 x7 x8 x9 x10 x11 x12 x13 x14 x15 x16 x17 x18 x19 x20 x21 x22 : Int32) (f0 f1 f2 f3 : Nat → Int32) (ix0 : iv x0 0 2600) (ix16 : iv x16 0 1) (ix21 : iv x21 0 1) (ix22 : iv x22 0 40) : Met l yX11_reset (Cond.code yX11_reset cX11_reset 1 none :: lw_G) ({ frames := 4, cells := 0, slots := 0, locals := 85 }) (va_Pc [.ref h0] (fun U => U.heap.size = sz ∧ va_P (dC, dI) vwCl [(h0, .inr (11, [.ref h1, .ref h2, .ref h3, .ref h4, .ref h5, .int x0, .int x1])), (h2, .inr (1, [.ref h6, .ref h7, .ref h8, .ref h9])), (h7, .inr (7, [.int x2, .int x3, .int x4, .int x5, .int x6])), (h8, .inr (5, [.int x7, .int x8, .int x9, .int x10, .int x11, .int x12])), (h9, .inr (9, [.ref h10, .ref h11, .int x13, .int x14, .int x15, .int x16])), (h10, .inl (y0, 3, .inl f0)), (h11, .inl (y1, 3, .inl f1)), (h3, .inr (2, [.ref h12, .ref h13, .ref h2, .int x17, .int x18, .int x19, .int x20, .int x21])), (h12, .inl (y2, 16, .inl f2)), (h13, .inr (3, [.ref h14, .ref h15, .int x22])), (h6, .inl (y3, 32768, .inl f3))] U.heap ∧ va_K (dC, dI) vwCl [(y0, .int), (y1, .int), (y2, .int), (y3, .int)] U ∧ va_D (fun _ => True) [(h0, .inr (11, [.ref h1, .ref h2, .ref h3, .ref h4, .ref h5, .int x0, .int x1])), (h2, .inr (1, [.ref h6, .ref h7, .ref h8, .ref h9])), (h7, .inr (7, [.int x2, .int x3, .int x4, .int x5, .int x6])), (h8, .inr (5, [.int x7, .int x8, .int x9, .int x10, .int x11, .int x12])), (h9, .inr (9, [.ref h10, .ref h11, .int x13, .int x14, .int x15, .int x16])), (h10, .inl (y0, 3, .inl f0)), (h11, .inl (y1, 3, .inl f1)), (h3, .inr (2, [.ref h12, .ref h13, .ref h2, .int x17, .int x18, .int x19, .int x20, .int x21])), (h12, .inl (y2, 16, .inl f2)), (h13, .inr (3, [.ref h14, .ref h15, .int x22])), (h6, .inl (y3, 32768, .inl f3))])) (va_Qv (fun (u : (Nat → Int32) × (Nat → Int32) × (Nat → Int32)) => u.1 0 = 0 ∧ u.1 1 = 0 ∧ u.1 2 = 0 ∧ u.2.1 0 = 0 ∧ u.2.1 1 = 0 ∧ u.2.1 2 = 0 ∧ True) (fun (u : (Nat → Int32) × (Nat → Int32) × (Nat → Int32)) (t : State) => va_P (dC, dI) vwCl [(h0, .inr (11, [.ref h1, .ref h2, .ref h3, .ref h4, .ref h5, .int x0, .int x1])), (h2, .inr (1, [.ref h6, .ref h7, .ref h8, .ref h9])), (h7, .inr (7, [.int 0, .int 0, .int 0, .int 0, .int 0])), (h8, .inr (5, [.int 304, .int 0, .int 0, .int 0, .int 0, .int 0])), (h9, .inr (9, [.ref h10, .ref h11, .int 0, .int 0, .int 0, .int 0])), (h10, .inl (y0, 3, .inl u.1)), (h11, .inl (y1, 3, .inl u.2.1)), (h3, .inr (2, [.ref h12, .ref h13, .ref h2, .int 0, .int 0, .int 0, .int x20, .int x21])), (h12, .inl (y2, 16, .inl u.2.2)), (h13, .inr (3, [.ref h14, .ref h15, .int 0])), (h6, .inl (y3, 32768, .inl f3))] t.heap ∧ va_K (dC, dI) vwCl [(y0, .int), (y1, .int), (y2, .int), (y3, .int)] t ∧ va_D (va_A [(h0, .inr (11, [.ref h1, .ref h2, .ref h3, .ref h4, .ref h5, .int x0, .int x1])), (h2, .inr (1, [.ref h6, .ref h7, .ref h8, .ref h9])), (h7, .inr (7, [.int x2, .int x3, .int x4, .int x5, .int x6])), (h8, .inr (5, [.int x7, .int x8, .int x9, .int x10, .int x11, .int x12])), (h9, .inr (9, [.ref h10, .ref h11, .int x13, .int x14, .int x15, .int x16])), (h10, .inl (y0, 3, .inl f0)), (h11, .inl (y1, 3, .inl f1)), (h3, .inr (2, [.ref h12, .ref h13, .ref h2, .int x17, .int x18, .int x19, .int x20, .int x21])), (h12, .inl (y2, 16, .inl f2)), (h13, .inr (3, [.ref h14, .ref h15, .int x22])), (h6, .inl (y3, 32768, .inl f3))] sz) [(h0, .inr (11, [.ref h1, .ref h2, .ref h3, .ref h4, .ref h5, .int x0, .int x1])), (h2, .inr (1, [.ref h6, .ref h7, .ref h8, .ref h9])), (h7, .inr (7, [.int 0, .int 0, .int 0, .int 0, .int 0])), (h8, .inr (5, [.int 304, .int 0, .int 0, .int 0, .int 0, .int 0])), (h9, .inr (9, [.ref h10, .ref h11, .int 0, .int 0, .int 0, .int 0])), (h10, .inl (y0, 3, .inl u.1)), (h11, .inl (y1, 3, .inl u.2.1)), (h3, .inr (2, [.ref h12, .ref h13, .ref h2, .int 0, .int 0, .int 0, .int x20, .int x21])), (h12, .inl (y2, 16, .inl u.2.2)), (h13, .inr (3, [.ref h14, .ref h15, .int 0])), (h6, .inl (y3, 32768, .inl f3))]) (va_A [(h0, .inr (11, [.ref h1, .ref h2, .ref h3, .ref h4, .ref h5, .int x0, .int x1])), (h2, .inr (1, [.ref h6, .ref h7, .ref h8, .ref h9])), (h7, .inr (7, [.int x2, .int x3, .int x4, .int x5, .int x6])), (h8, .inr (5, [.int x7, .int x8, .int x9, .int x10, .int x11, .int x12])), (h9, .inr (9, [.ref h10, .ref h11, .int x13, .int x14, .int x15, .int x16])), (h10, .inl (y0, 3, .inl f0)), (h11, .inl (y1, 3, .inl f1)), (h3, .inr (2, [.ref h12, .ref h13, .ref h2, .int x17, .int x18, .int x19, .int x20, .int x21])), (h12, .inl (y2, 16, .inl f2)), (h13, .inr (3, [.ref h14, .ref h15, .int x22])), (h6, .inl (y3, 32768, .inl f3))] sz)) 0 0 (va_A [(h0, .inr (11, [.ref h1, .ref h2, .ref h3, .ref h4, .ref h5, .int x0, .int x1])), (h2, .inr (1, [.ref h6, .ref h7, .ref h8, .ref h9])), (h7, .inr (7, [.int x2, .int x3, .int x4, .int x5, .int x6])), (h8, .inr (5, [.int x7, .int x8, .int x9, .int x10, .int x11, .int x12])), (h9, .inr (9, [.ref h10, .ref h11, .int x13, .int x14, .int x15, .int x16])), (h10, .inl (y0, 3, .inl f0)), (h11, .inl (y1, 3, .inl f1)), (h3, .inr (2, [.ref h12, .ref h13, .ref h2, .int x17, .int x18, .int x19, .int x20, .int x21])), (h12, .inl (y2, 16, .inl f2)), (h13, .inr (3, [.ref h14, .ref h15, .int x22])), (h6, .inl (y3, 32768, .inl f3))] sz) := by
  refine Met.ofW (cc := cX11_reset) (maxL := 1) (ret := none) (by decide) rfl ?_
  intro p e s m args below meth c s₁ B hml hv
  obtain ⟨rfl, hsz, hP, hK, hD0⟩ := hv
  have hx := B.exec
  have hb := B.bytes
  have hr := B.returns
  have hts0 := atoms_spec (ws := Cond.code yX11_reset cX11_reset 1 none :: lw_G) B.pre
  have hG : ∀ w ∈ lw_G, w.before _ s = true := fun w h => hts0 w (List.mem_cons_of_mem _ h)
  have hown : s.vm.findClass RX11 = some m.cls := findClass_of_methodNamed B.named
  have hlocks := B.notSynchronized
  subst hsz
  have hD := hD0.self (sz := s.heap.size)
  generalize hAe : va_A [(h0, .inr (11, [.ref h1, .ref h2, .ref h3, .ref h4, .ref h5, .int x0, .int x1])), (h2, .inr (1, [.ref h6, .ref h7, .ref h8, .ref h9])), (h7, .inr (7, [.int x2, .int x3, .int x4, .int x5, .int x6])), (h8, .inr (5, [.int x7, .int x8, .int x9, .int x10, .int x11, .int x12])), (h9, .inr (9, [.ref h10, .ref h11, .int x13, .int x14, .int x15, .int x16])), (h10, .inl (y0, 3, .inl f0)), (h11, .inl (y1, 3, .inl f1)), (h3, .inr (2, [.ref h12, .ref h13, .ref h2, .int x17, .int x18, .int x19, .int x20, .int x21])), (h12, .inl (y2, 16, .inl f2)), (h13, .inr (3, [.ref h14, .ref h15, .int x22])), (h6, .inl (y3, 32768, .inl f3))] s.heap.size = A at hD ⊢
  have hA : ∀ q : Nat, s.heap.size ≤ q → A q := fun q h => by rw [← hAe]; exact Or.inr h
  have hS : va_S A s.heap s.heap [] := va_S.rf
  have hP : va_P (dC, dI) vwCl [(h0, .inr (11, [.ref h1, .ref h2, .ref h3, .ref h4, .ref h5, .int x0, .int x1])), (h2, .inr (1, [.ref h6, .ref h7, .ref h8, .ref h9])), (h7, .inr (7, [.int x2, .int x3, .int x4, .int x5, .int x6])), (h8, .inr (5, [.int x7, .int x8, .int x9, .int x10, .int x11, .int x12])), (h9, .inr (9, [.ref h10, .ref h11, .int x13, .int x14, .int x15, .int x16])), (h10, .inl (y0, 3, .inl f0)), (h11, .inl (y1, 3, .inl f1)), (h3, .inr (2, [.ref h12, .ref h13, .ref h2, .int x17, .int x18, .int x19, .int x20, .int x21])), (h12, .inl (y2, 16, .inl f2)), (h13, .inr (3, [.ref h14, .ref h15, .int x22])), (h6, .inl (y3, 32768, .inl f3))] s.heap := hP
  have hl := lv_entry ([.ref h0]) (n := 1) (Nat.le_of_ble_eq_true rfl)
  rw [lg_entry_eq]
  generalize (lg_sl ([.ref h0]) ++ List.replicate (1 - (lg_sl ([.ref h0])).length) Slot.unset).toArray = ls at hl ⊢
  have hl : lv_has ls 1 [(0, .ref h0)] := hl
  generalize ([.ref h0] : List Value).toArray = ar at hG ⊢
  refine wq (fun Q hQ => ?_)
  refine lv_aload_n hx hb dX11_reset_0 rfl (lv_at hl 0 rfl) ?_
  refine va_get (D := (dC, dI)) (ci := 11) (v := .ref h2) (C := RX11) (T := TX11) (N := 7) hx hb hG inGX11 hown hK hP 0 rfl rfl 1 (by decide) (hG _ wd_396) (fun _ h9 => h9) rfl dX11_reset_1 ?_
  obtain ⟨hPc, hDc, hFc⟩ := nv_sub3 (wc := [(h2, .inr (1, [.ref h6, .ref h7, .ref h8, .ref h9])), (h7, .inr (7, [.int x2, .int x3, .int x4, .int x5, .int x6])), (h8, .inr (5, [.int x7, .int x8, .int x9, .int x10, .int x11, .int x12])), (h9, .inr (9, [.ref h10, .ref h11, .int x13, .int x14, .int x15, .int x16])), (h10, .inl (y0, 3, .inl f0)), (h11, .inl (y1, 3, .inl f1))]) hP hD hS hA [1, 2, 3, 4, 5, 6] (by decide) rfl
  have hKc := hK.sub (tys' := [(y0, .int), (y1, .int)]) [0, 1] rfl
  refine va_callv (va_runV (As := []) (rest := []) ⟨hx, hb, hml, hown, hG⟩ (cX1_clearThings_1 l dC dI h2 h6 h7 h8 h9 h10 h11 y0 y1 s.heap.size x2 x3 x4 x5 x6 x7 x8 x9 x10 x11 x12 x13 x14 x15 x16 f0 f1 ix16) (cwV 0 hG (gV wd_796 wd_797 wd_798 wd_2 wd_799) rfl rfl rfl (by decide +kernel) ⟨Nat.le_of_ble_eq_true rfl, Nat.le_of_ble_eq_true rfl⟩) ⟨fun a U g mk q => by obtain ⟨q0, q1, qP, qK, qD⟩ := q; exact ⟨q0, q1, qP, va_K.moved (u := U) (U := U.calling g mk a) (Vm.Alike.refl U.vm) qK, qD⟩, va_recv hKc hPc (ci := 1) (q0 := 0) rfl rfl, fun U hU hW => ⟨rfl, by rw [hU], by rw [hU]; exact hPc, va_K.moved hW.alike hKc, hDc.weaken (fun _ _ _ _ => trivial)⟩⟩ rfl rfl hl.1 rfl (lv_room (Nat.le_of_ble_eq_true rfl)) dX11_reset_4 ⟨by decide, by decide⟩) hS (fun q _ h => hFc q h) hFc (fun u2 t H1 locs ht hvm hw hB hz1 hk1 hS => ?_)
  obtain ⟨u2_0, u2_1⟩ := u2
  have hw : u2_0 0 = 0 ∧ u2_0 1 = 0 ∧ u2_0 2 = 0 ∧ u2_1 0 = 0 ∧ u2_1 1 = 0 ∧ u2_1 2 = 0 ∧ True := hw
  obtain ⟨ku2_0_0, ku2_0_1, ku2_0_2, ku2_1_0, ku2_1_1, ku2_1_2, -⟩ := hw
  obtain ⟨hP1, hK1, hD1⟩ := hB
  rw [ht] at hP1
  have hK1 := va_K.moved hvm.symm hK1
  obtain ⟨hP, hD⟩ := nv_join (wf := [(h0, .inr (11, [.ref h1, .ref h2, .ref h3, .ref h4, .ref h5, .int x0, .int x1])), (h3, .inr (2, [.ref h12, .ref h13, .ref h2, .int x17, .int x18, .int x19, .int x20, .int x21])), (h12, .inl (y2, 16, .inl f2)), (h13, .inr (3, [.ref h14, .ref h15, .int x22])), (h6, .inl (y3, 32768, .inl f3)), (h2, .inr (1, [.ref h6, .ref h7, .ref h8, .ref h9])), (h7, .inr (7, [.int 0, .int 0, .int 0, .int 0, .int 0])), (h8, .inr (5, [.int 304, .int 0, .int 0, .int 0, .int 0, .int 0])), (h9, .inr (9, [.ref h10, .ref h11, .int 0, .int 0, .int 0, .int 0])), (h10, .inl (y0, 3, .inl u2_0)), (h11, .inl (y1, 3, .inl u2_1))]) hP hD [1, 2, 3, 4, 5, 6] [0, 7, 8, 9, 10] rfl rfl (by decide) (by decide) hk1 hFc hP1 hD1 rfl
  have hK := (hK.sub (tys' := [(y2, .int), (y3, .int)]) [2, 3] rfl).app hK1
  generalize H1 = H at hP hS ⊢
  have hK : va_K (dC, dI) vwCl [(y2, .int), (y3, .int), (y0, .int), (y1, .int)] s := hK
  refine lv_aload_n hx hb dX11_reset_7 rfl (lv_at hl 0 rfl) ?_
  refine va_get (D := (dC, dI)) (ci := 11) (v := .ref h3) (C := RX11) (T := TX11) (N := 7) hx hb hG inGX11 hown hK hP 0 rfl rfl 2 (by decide) (hG _ wd_397) (fun _ h9 => h9) rfl dX11_reset_8 ?_
  obtain ⟨hPc, hDc, hFc⟩ := nv_sub3 (wc := [(h3, .inr (2, [.ref h12, .ref h13, .ref h2, .int x17, .int x18, .int x19, .int x20, .int x21])), (h12, .inl (y2, 16, .inl f2)), (h13, .inr (3, [.ref h14, .ref h15, .int x22])), (h2, .inr (1, [.ref h6, .ref h7, .ref h8, .ref h9])), (h6, .inl (y3, 32768, .inl f3)), (h9, .inr (9, [.ref h10, .ref h11, .int 0, .int 0, .int 0, .int 0])), (h11, .inl (y1, 3, .inl u2_1)), (h10, .inl (y0, 3, .inl u2_0)), (h8, .inr (5, [.int 304, .int 0, .int 0, .int 0, .int 0, .int 0])), (h7, .inr (7, [.int 0, .int 0, .int 0, .int 0, .int 0]))]) hP hD hS hA [1, 2, 3, 5, 4, 8, 10, 9, 7, 6] (by decide) rfl
  have hKc := hK.sub (tys' := [(y2, .int), (y3, .int), (y1, .int), (y0, .int)]) [0, 1, 3, 2] rfl
  refine va_callv (va_runV (As := []) (rest := []) ⟨hx, hb, hml, hown, hG⟩ (cX2_restart_1 l dC dI h3 h12 h13 h2 h14 h15 h6 h7 h8 h9 h10 h11 y2 y3 y1 y0 H.size x17 x18 x19 x20 x21 x22 0 0 0 0 304 0 0 0 0 0 0 0 0 0 0 f2 f3 u2_1 u2_0 ix21 ix22 (iv_w (by decide : iv 0 0 0) (by decide) (by decide))) (cwV 0 hG (gV wd_812 wd_813 wd_814 wd_6 wd_815) rfl rfl rfl (by decide +kernel) ⟨Nat.le_of_ble_eq_true rfl, Nat.le_of_ble_eq_true rfl⟩) ⟨fun a U g mk q => by obtain ⟨q0, q1, qP, qK, qD⟩ := q; exact ⟨q0, q1, qP, va_K.moved (u := U) (U := U.calling g mk a) (Vm.Alike.refl U.vm) qK, qD⟩, va_recv hKc hPc (ci := 2) (q0 := 0) rfl rfl, fun U hU hW => ⟨rfl, by rw [hU], by rw [hU]; exact hPc, va_K.moved hW.alike hKc, hDc.weaken (fun _ _ _ _ => trivial)⟩⟩ rfl rfl hl.1 rfl (lv_room (Nat.le_of_ble_eq_true rfl)) dX11_reset_11 ⟨by decide, by decide⟩) hS (fun q _ h => hFc q h) hFc (fun u4 t H1 locs ht hvm hw hB hz1 hk1 hS => ?_)
  obtain ⟨u4_0, rfl⟩ : ∃ z, z = u4 := ⟨_, rfl⟩
  obtain ⟨hP1, hK1, hD1⟩ := hB
  rw [ht] at hP1
  have hK1 := va_K.moved hvm.symm hK1
  obtain ⟨hP, hD⟩ := nv_join (wf := [(h0, .inr (11, [.ref h1, .ref h2, .ref h3, .ref h4, .ref h5, .int x0, .int x1])), (h3, .inr (2, [.ref h12, .ref h13, .ref h2, .int 0, .int 0, .int 0, .int x20, .int x21])), (h12, .inl (y2, 16, .inl u4_0)), (h13, .inr (3, [.ref h14, .ref h15, .int 0])), (h2, .inr (1, [.ref h6, .ref h7, .ref h8, .ref h9])), (h6, .inl (y3, 32768, .inl f3)), (h9, .inr (9, [.ref h10, .ref h11, .int 0, .int 0, .int 0, .int 0])), (h11, .inl (y1, 3, .inl u2_1)), (h10, .inl (y0, 3, .inl u2_0)), (h8, .inr (5, [.int 304, .int 0, .int 0, .int 0, .int 0, .int 0])), (h7, .inr (7, [.int 0, .int 0, .int 0, .int 0, .int 0]))]) hP hD [1, 2, 3, 5, 4, 8, 10, 9, 7, 6] [0] rfl rfl (by decide) (by decide) hk1 hFc hP1 hD1 rfl
  have hK := (hK.sub (tys' := []) [] rfl).app hK1
  generalize H1 = H at hP hS ⊢
  have hK : va_K (dC, dI) vwCl [(y2, .int), (y3, .int), (y1, .int), (y0, .int)] s := hK
  rw [hQ]
  obtain ⟨hP9, hD9⟩ := nv_sub2 (wc := [(h0, .inr (11, [.ref h1, .ref h2, .ref h3, .ref h4, .ref h5, .int x0, .int x1])), (h2, .inr (1, [.ref h6, .ref h7, .ref h8, .ref h9])), (h7, .inr (7, [.int 0, .int 0, .int 0, .int 0, .int 0])), (h8, .inr (5, [.int 304, .int 0, .int 0, .int 0, .int 0, .int 0])), (h9, .inr (9, [.ref h10, .ref h11, .int 0, .int 0, .int 0, .int 0])), (h10, .inl (y0, 3, .inl u2_0)), (h11, .inl (y1, 3, .inl u2_1)), (h3, .inr (2, [.ref h12, .ref h13, .ref h2, .int 0, .int 0, .int 0, .int x20, .int x21])), (h12, .inl (y2, 16, .inl u4_0)), (h13, .inr (3, [.ref h14, .ref h15, .int 0])), (h6, .inl (y3, 32768, .inl f3))]) hP hD [0, 4, 10, 9, 6, 8, 7, 1, 2, 3, 5] (by decide) rfl
  have hK9 := hK.sub (tys' := [(y0, .int), (y1, .int), (y2, .int), (y3, .int)]) [3, 2, 0, 1] rfl
  exact W.vret hx hb hr (fun t ht hW => ⟨⟨(u2_0, u2_1, u4_0), rfl, ⟨ku2_0_0, ku2_0_1, ku2_0_2, ku2_1_0, ku2_1_1, ku2_1_2, trivial⟩, by rw [ht]; exact hP9, va_K.moved hW.alike hK9, hD9⟩, hS.F ht⟩) hS.2.2 dX11_reset_14
set_option maxHeartbeats 100000000 in
set_option maxRecDepth 100000 in
theorem cX12_port_1 (l : Launch) (dC : Nat → ClassId) (dI : Nat → Nat → Nat) (h0 h1 h2 h3 h4 h5 h6 h7 h8 h9 h10 h11 h12 h13 h14 h15 h16 h17 : Nat) (sz : Nat) (x0 x1 x2 x3 x4 x5 x6 x7 x8 x9 x10 x11 x12 x13 x14 x15 x16 x17 x18 x19 x20 x21 x22 x23 x24 x25 x26 x27 x28 x29 x30 x31 x32 x33 x34 x35 x36 x37 x38 x39 x40 x41 x42 x43 x44 x45 x46 x47 x48 x49 x50 x51 x52 x53 x54 : Int32) (z0 : Int64) (ix16 : iv x16 0 1) (ix17 : iv x17 0 40) (ix22 : iv x22 0 65535) (ix23 : iv x23 0 1) (ix24 : iv x24 0 1) (ix25 : iv x25 0 2600) (ix26 : iv x26 0 2600) (ix27 : iv x27 0 2500) (ix28 : iv x28 0 2500) (ix32 : iv x32 0 1048575) (ix33 : iv x33 0 60) (ix34 : iv x34 0 60) (ix35 : iv x35 0 1) (ix36 : iv x36 0 1) (ix37 : iv x37 0 65535) (ix42 : iv x42 0 5200) (ix43 : iv x43 0 70800) (ix47 : iv x47 0 1) (ix48 : iv x48 0 1) (ix50 : iv x50 0 100) (ix54 : iv x54 0 1) : Met l yX12_port (Cond.code yX12_port cX12_port 2 (some .int) :: lw_G) ({ frames := 0, cells := 0, slots := 0, locals := 0 }) (va_Pc [.ref h0, .int x0] (fun U => U.heap.size = sz ∧ va_P (dC, dI) vwCl [(h0, .inr (12, .int x1 :: .ref h1 :: .ref h2 :: .int x2 :: .int x3 :: .int x4 :: .int x5 :: .int x6 :: .int x7 :: .int x8 :: .int x9 :: .int x10 :: [.int x11, .int x12, .int x13, .int x14, .int x15, .int x16, .ref h3, .ref h4, .ref h5, .ref h6, .int x17, .int x18, .int x19, .int x20, .int x21, .int x22, .int x23, .int x24, .ref h7, .int x25, .int x26, .int x27, .int x28, .ref h8, .ref h9, .int x29, .int x30, .long z0, .int x31, .int x32, .ref h10, .ref h11, .ref h12, .ref h13, .ref h14, .int x33, .int x34, .int x35, .int x36, .int x37, .int x38, .int x39, .int x40, .int x41, .ref h15, .ref h16, .int x42, .int x43, .int x44, .int x45, .int x46, .int x47, .int x48, .int x49, .ref h17, .int x50, .int x51, .int x52, .int x53, .int x54]))] U.heap ∧ va_K (dC, dI) vwCl [] U ∧ va_D (fun _ => True) [(h0, .inr (12, .int x1 :: .ref h1 :: .ref h2 :: .int x2 :: .int x3 :: .int x4 :: .int x5 :: .int x6 :: .int x7 :: .int x8 :: .int x9 :: .int x10 :: [.int x11, .int x12, .int x13, .int x14, .int x15, .int x16, .ref h3, .ref h4, .ref h5, .ref h6, .int x17, .int x18, .int x19, .int x20, .int x21, .int x22, .int x23, .int x24, .ref h7, .int x25, .int x26, .int x27, .int x28, .ref h8, .ref h9, .int x29, .int x30, .long z0, .int x31, .int x32, .ref h10, .ref h11, .ref h12, .ref h13, .ref h14, .int x33, .int x34, .int x35, .int x36, .int x37, .int x38, .int x39, .int x40, .int x41, .ref h15, .ref h16, .int x42, .int x43, .int x44, .int x45, .int x46, .int x47, .int x48, .int x49, .ref h17, .int x50, .int x51, .int x52, .int x53, .int x54]))])) (va_Qi (fun (r : Int32) (u : Unit) => True) (fun (u : Unit) (t : State) => va_P (dC, dI) vwCl [(h0, .inr (12, .int x1 :: .ref h1 :: .ref h2 :: .int x2 :: .int x3 :: .int x4 :: .int x5 :: .int x6 :: .int x7 :: .int x8 :: .int x9 :: .int x10 :: [.int x11, .int x12, .int x13, .int x14, .int x15, .int x16, .ref h3, .ref h4, .ref h5, .ref h6, .int x17, .int x18, .int x19, .int x20, .int x21, .int x22, .int x23, .int x24, .ref h7, .int x25, .int x26, .int x27, .int x28, .ref h8, .ref h9, .int x29, .int x30, .long z0, .int x31, .int x32, .ref h10, .ref h11, .ref h12, .ref h13, .ref h14, .int x33, .int x34, .int x35, .int x36, .int x37, .int x38, .int x39, .int x40, .int x41, .ref h15, .ref h16, .int x42, .int x43, .int x44, .int x45, .int x46, .int x47, .int x48, .int x49, .ref h17, .int x50, .int x51, .int x52, .int x53, .int x54]))] t.heap ∧ va_K (dC, dI) vwCl [] t ∧ va_D (va_A [(h0, .inr (12, .int x1 :: .ref h1 :: .ref h2 :: .int x2 :: .int x3 :: .int x4 :: .int x5 :: .int x6 :: .int x7 :: .int x8 :: .int x9 :: .int x10 :: [.int x11, .int x12, .int x13, .int x14, .int x15, .int x16, .ref h3, .ref h4, .ref h5, .ref h6, .int x17, .int x18, .int x19, .int x20, .int x21, .int x22, .int x23, .int x24, .ref h7, .int x25, .int x26, .int x27, .int x28, .ref h8, .ref h9, .int x29, .int x30, .long z0, .int x31, .int x32, .ref h10, .ref h11, .ref h12, .ref h13, .ref h14, .int x33, .int x34, .int x35, .int x36, .int x37, .int x38, .int x39, .int x40, .int x41, .ref h15, .ref h16, .int x42, .int x43, .int x44, .int x45, .int x46, .int x47, .int x48, .int x49, .ref h17, .int x50, .int x51, .int x52, .int x53, .int x54]))] sz) [(h0, .inr (12, .int x1 :: .ref h1 :: .ref h2 :: .int x2 :: .int x3 :: .int x4 :: .int x5 :: .int x6 :: .int x7 :: .int x8 :: .int x9 :: .int x10 :: [.int x11, .int x12, .int x13, .int x14, .int x15, .int x16, .ref h3, .ref h4, .ref h5, .ref h6, .int x17, .int x18, .int x19, .int x20, .int x21, .int x22, .int x23, .int x24, .ref h7, .int x25, .int x26, .int x27, .int x28, .ref h8, .ref h9, .int x29, .int x30, .long z0, .int x31, .int x32, .ref h10, .ref h11, .ref h12, .ref h13, .ref h14, .int x33, .int x34, .int x35, .int x36, .int x37, .int x38, .int x39, .int x40, .int x41, .ref h15, .ref h16, .int x42, .int x43, .int x44, .int x45, .int x46, .int x47, .int x48, .int x49, .ref h17, .int x50, .int x51, .int x52, .int x53, .int x54]))]) (va_A [(h0, .inr (12, .int x1 :: .ref h1 :: .ref h2 :: .int x2 :: .int x3 :: .int x4 :: .int x5 :: .int x6 :: .int x7 :: .int x8 :: .int x9 :: .int x10 :: [.int x11, .int x12, .int x13, .int x14, .int x15, .int x16, .ref h3, .ref h4, .ref h5, .ref h6, .int x17, .int x18, .int x19, .int x20, .int x21, .int x22, .int x23, .int x24, .ref h7, .int x25, .int x26, .int x27, .int x28, .ref h8, .ref h9, .int x29, .int x30, .long z0, .int x31, .int x32, .ref h10, .ref h11, .ref h12, .ref h13, .ref h14, .int x33, .int x34, .int x35, .int x36, .int x37, .int x38, .int x39, .int x40, .int x41, .ref h15, .ref h16, .int x42, .int x43, .int x44, .int x45, .int x46, .int x47, .int x48, .int x49, .ref h17, .int x50, .int x51, .int x52, .int x53, .int x54]))] sz)) 0 0 (va_A [(h0, .inr (12, .int x1 :: .ref h1 :: .ref h2 :: .int x2 :: .int x3 :: .int x4 :: .int x5 :: .int x6 :: .int x7 :: .int x8 :: .int x9 :: .int x10 :: [.int x11, .int x12, .int x13, .int x14, .int x15, .int x16, .ref h3, .ref h4, .ref h5, .ref h6, .int x17, .int x18, .int x19, .int x20, .int x21, .int x22, .int x23, .int x24, .ref h7, .int x25, .int x26, .int x27, .int x28, .ref h8, .ref h9, .int x29, .int x30, .long z0, .int x31, .int x32, .ref h10, .ref h11, .ref h12, .ref h13, .ref h14, .int x33, .int x34, .int x35, .int x36, .int x37, .int x38, .int x39, .int x40, .int x41, .ref h15, .ref h16, .int x42, .int x43, .int x44, .int x45, .int x46, .int x47, .int x48, .int x49, .ref h17, .int x50, .int x51, .int x52, .int x53, .int x54]))] sz) := by
  refine Met.ofW (cc := cX12_port) (maxL := 2) (ret := (some .int)) (by decide) rfl ?_
  intro p e s m args below meth c s₁ B hml hv
  obtain ⟨rfl, hsz, hP, hK, hD0⟩ := hv
  have hx := B.exec
  have hb := B.bytes
  have hr := B.returns
  have hts0 := atoms_spec (ws := Cond.code yX12_port cX12_port 2 (some .int) :: lw_G) B.pre
  have hG : ∀ w ∈ lw_G, w.before _ s = true := fun w h => hts0 w (List.mem_cons_of_mem _ h)
  have hown : s.vm.findClass RX12 = some m.cls := findClass_of_methodNamed B.named
  have hlocks := B.notSynchronized
  subst hsz
  have hD := hD0.self (sz := s.heap.size)
  generalize hAe : va_A [(h0, .inr (12, .int x1 :: .ref h1 :: .ref h2 :: .int x2 :: .int x3 :: .int x4 :: .int x5 :: .int x6 :: .int x7 :: .int x8 :: .int x9 :: .int x10 :: [.int x11, .int x12, .int x13, .int x14, .int x15, .int x16, .ref h3, .ref h4, .ref h5, .ref h6, .int x17, .int x18, .int x19, .int x20, .int x21, .int x22, .int x23, .int x24, .ref h7, .int x25, .int x26, .int x27, .int x28, .ref h8, .ref h9, .int x29, .int x30, .long z0, .int x31, .int x32, .ref h10, .ref h11, .ref h12, .ref h13, .ref h14, .int x33, .int x34, .int x35, .int x36, .int x37, .int x38, .int x39, .int x40, .int x41, .ref h15, .ref h16, .int x42, .int x43, .int x44, .int x45, .int x46, .int x47, .int x48, .int x49, .ref h17, .int x50, .int x51, .int x52, .int x53, .int x54]))] s.heap.size = A at hD ⊢
  have hA : ∀ q : Nat, s.heap.size ≤ q → A q := fun q h => by rw [← hAe]; exact Or.inr h
  have hS : va_S A s.heap s.heap [] := va_S.rf
  have hP : va_P (dC, dI) vwCl [(h0, .inr (12, .int x1 :: .ref h1 :: .ref h2 :: .int x2 :: .int x3 :: .int x4 :: .int x5 :: .int x6 :: .int x7 :: .int x8 :: .int x9 :: .int x10 :: [.int x11, .int x12, .int x13, .int x14, .int x15, .int x16, .ref h3, .ref h4, .ref h5, .ref h6, .int x17, .int x18, .int x19, .int x20, .int x21, .int x22, .int x23, .int x24, .ref h7, .int x25, .int x26, .int x27, .int x28, .ref h8, .ref h9, .int x29, .int x30, .long z0, .int x31, .int x32, .ref h10, .ref h11, .ref h12, .ref h13, .ref h14, .int x33, .int x34, .int x35, .int x36, .int x37, .int x38, .int x39, .int x40, .int x41, .ref h15, .ref h16, .int x42, .int x43, .int x44, .int x45, .int x46, .int x47, .int x48, .int x49, .ref h17, .int x50, .int x51, .int x52, .int x53, .int x54]))] s.heap := hP
  have hl := lv_entry ([.ref h0, .int x0]) (n := 2) (Nat.le_of_ble_eq_true rfl)
  rw [lg_entry_eq]
  generalize (lg_sl ([.ref h0, .int x0]) ++ List.replicate (2 - (lg_sl ([.ref h0, .int x0])).length) Slot.unset).toArray = ls at hl ⊢
  have hl : lv_has ls 2 [(0, .ref h0), (1, .int x0)] := hl
  generalize ([.ref h0, .int x0] : List Value).toArray = ar at hG ⊢
  refine wq (fun Q hQ => ?_)
  refine lv_iload_n hx hb dX12_port_0 rfl (lv_at hl 1 rfl) ?_
  refine lv_bipush (v := 32) hx hb dX12_port_1 (by decide) ?_
  refine jcut (a := ∀ (b11 : Int32) (H : Heap) (locs : List Loc) (hK : va_K (dC, dI) vwCl [] s) (hP : va_P (dC, dI) vwCl [(h0, .inr (12, .int x1 :: .ref h1 :: .ref h2 :: .int x2 :: .int x3 :: .int x4 :: .int x5 :: .int x6 :: .int x7 :: .int x8 :: .int x9 :: .int x10 :: [.int x11, .int x12, .int x13, .int x14, .int x15, .int x16, .ref h3, .ref h4, .ref h5, .ref h6, .int x17, .int x18, .int x19, .int x20, .int x21, .int x22, .int x23, .int x24, .ref h7, .int x25, .int x26, .int x27, .int x28, .ref h8, .ref h9, .int x29, .int x30, .long z0, .int x31, .int x32, .ref h10, .ref h11, .ref h12, .ref h13, .ref h14, .int x33, .int x34, .int x35, .int x36, .int x37, .int x38, .int x39, .int x40, .int x41, .ref h15, .ref h16, .int x42, .int x43, .int x44, .int x45, .int x46, .int x47, .int x48, .int x49, .ref h17, .int x50, .int x51, .int x52, .int x53, .int x54]))] H) (hD : va_D A [(h0, .inr (12, .int x1 :: .ref h1 :: .ref h2 :: .int x2 :: .int x3 :: .int x4 :: .int x5 :: .int x6 :: .int x7 :: .int x8 :: .int x9 :: .int x10 :: [.int x11, .int x12, .int x13, .int x14, .int x15, .int x16, .ref h3, .ref h4, .ref h5, .ref h6, .int x17, .int x18, .int x19, .int x20, .int x21, .int x22, .int x23, .int x24, .ref h7, .int x25, .int x26, .int x27, .int x28, .ref h8, .ref h9, .int x29, .int x30, .long z0, .int x31, .int x32, .ref h10, .ref h11, .ref h12, .ref h13, .ref h14, .int x33, .int x34, .int x35, .int x36, .int x37, .int x38, .int x39, .int x40, .int x41, .ref h15, .ref h16, .int x42, .int x43, .int x44, .int x45, .int x46, .int x47, .int x48, .int x49, .ref h17, .int x50, .int x51, .int x52, .int x53, .int x54]))]) (hS : va_S A s.heap H locs) (ls : Array Slot) (hl : lv_has ls 2 []), W p l e (headSpec (Cond.code yX12_port cX12_port 2 (some .int) :: lw_G) ({ frames := 0, cells := 0, slots := 0, locals := 0 })).room s m ar below meth c H locs 0 0 Q (F0 m 66 ls [.int b11])) ?_ (fun j12 => ?_)
  · skip
    intro b11 H locs hK hP hD hS ls hl
    rw [hQ]
    obtain ⟨hP9, hD9⟩ := nv_sub2 (wc := [(h0, .inr (12, .int x1 :: .ref h1 :: .ref h2 :: .int x2 :: .int x3 :: .int x4 :: .int x5 :: .int x6 :: .int x7 :: .int x8 :: .int x9 :: .int x10 :: [.int x11, .int x12, .int x13, .int x14, .int x15, .int x16, .ref h3, .ref h4, .ref h5, .ref h6, .int x17, .int x18, .int x19, .int x20, .int x21, .int x22, .int x23, .int x24, .ref h7, .int x25, .int x26, .int x27, .int x28, .ref h8, .ref h9, .int x29, .int x30, .long z0, .int x31, .int x32, .ref h10, .ref h11, .ref h12, .ref h13, .ref h14, .int x33, .int x34, .int x35, .int x36, .int x37, .int x38, .int x39, .int x40, .int x41, .ref h15, .ref h16, .int x42, .int x43, .int x44, .int x45, .int x46, .int x47, .int x48, .int x49, .ref h17, .int x50, .int x51, .int x52, .int x53, .int x54]))]) hP hD [0] (by decide) rfl
    have hK9 := hK.sub (tys' := []) [] rfl
    exact W.iret (v := b11) hx hb hr (fun t ht hW => ⟨⟨b11, (), rfl, trivial, by rw [ht]; exact hP9, va_K.moved hW.alike hK9, hD9⟩, hS.F ht⟩) hS.2.2 dX12_port_66
  refine lv_icmp_ne (tgt := 13) hx hb dX12_port_3 (by decide) (fun c1 => ?_) (fun c1 => ?_)
  · skip
    refine lv_iload_n hx hb dX12_port_13 rfl (lv_at hl 1 rfl) ?_
    refine lv_bipush (v := 33) hx hb dX12_port_14 (by decide) ?_
    refine lv_icmp_ne (tgt := 26) hx hb dX12_port_16 (by decide) (fun c13 => ?_) (fun c13 => ?_)
    · skip
      refine lv_iload_n hx hb dX12_port_26 rfl (lv_at hl 1 rfl) ?_
      refine lv_bipush (v := 35) hx hb dX12_port_27 (by decide) ?_
      refine lv_icmp_ne (tgt := 39) hx hb dX12_port_29 (by decide) (fun c14 => ?_) (fun c14 => ?_)
      · skip
        refine lv_iload_n hx hb dX12_port_39 rfl (lv_at hl 1 rfl) ?_
        refine lv_bipush (v := 36) hx hb dX12_port_40 (by decide) ?_
        refine lv_icmp_ne (tgt := 52) hx hb dX12_port_42 (by decide) (fun c15 => ?_) (fun c15 => ?_)
        · skip
          refine lv_iload_n hx hb dX12_port_52 rfl (lv_at hl 1 rfl) ?_
          refine lv_bipush (v := 37) hx hb dX12_port_53 (by decide) ?_
          refine lv_icmp_ne (tgt := 65) hx hb dX12_port_55 (by decide) (fun c16 => ?_) (fun c16 => ?_)
          · skip
            refine lv_iconst (v := 0) hx hb dX12_port_65 (by decide) ?_
            exact j12 0 _ _ hK hP hD hS ls (lv_sub hl [] rfl)
          · skip
            have j17 : iv x0 37 37 := iv_eqc c16 (by decide)
            refine lv_aload_n hx hb dX12_port_58 rfl (lv_at hl 0 rfl) ?_
            refine va_get (D := (dC, dI)) (ci := 12) (v := .int x6) (C := RX12) (T := TX12) (N := 72) hx hb hG inGX12 hown hK hP 0 rfl rfl 7 (by decide) (hG _ wd_1314) (fun _ h9 => h9) rfl dX12_port_59 ?_
            refine lv_goto (tgt := 66) hx hb dX12_port_62 (by decide) ?_
            exact j12 x6 _ _ hK hP hD hS ls (lv_sub hl [] rfl)
        · skip
          have j18 : iv x0 36 36 := iv_eqc c15 (by decide)
          refine lv_aload_n hx hb dX12_port_45 rfl (lv_at hl 0 rfl) ?_
          refine va_get (D := (dC, dI)) (ci := 12) (v := .int x5) (C := RX12) (T := TX12) (N := 72) hx hb hG inGX12 hown hK hP 0 rfl rfl 6 (by decide) (hG _ wd_1313) (fun _ h9 => h9) rfl dX12_port_46 ?_
          refine lv_goto (tgt := 66) hx hb dX12_port_49 (by decide) ?_
          exact j12 x5 _ _ hK hP hD hS ls (lv_sub hl [] rfl)
      · skip
        have j19 : iv x0 35 35 := iv_eqc c14 (by decide)
        refine lv_aload_n hx hb dX12_port_32 rfl (lv_at hl 0 rfl) ?_
        refine va_get (D := (dC, dI)) (ci := 12) (v := .int x4) (C := RX12) (T := TX12) (N := 72) hx hb hG inGX12 hown hK hP 0 rfl rfl 5 (by decide) (hG _ wd_1312) (fun _ h9 => h9) rfl dX12_port_33 ?_
        refine lv_goto (tgt := 66) hx hb dX12_port_36 (by decide) ?_
        exact j12 x4 _ _ hK hP hD hS ls (lv_sub hl [] rfl)
    · skip
      have j20 : iv x0 33 33 := iv_eqc c13 (by decide)
      refine lv_aload_n hx hb dX12_port_19 rfl (lv_at hl 0 rfl) ?_
      refine va_get (D := (dC, dI)) (ci := 12) (v := .int x3) (C := RX12) (T := TX12) (N := 72) hx hb hG inGX12 hown hK hP 0 rfl rfl 4 (by decide) (hG _ wd_1311) (fun _ h9 => h9) rfl dX12_port_20 ?_
      refine lv_goto (tgt := 66) hx hb dX12_port_23 (by decide) ?_
      exact j12 x3 _ _ hK hP hD hS ls (lv_sub hl [] rfl)
  · skip
    have j21 : iv x0 32 32 := iv_eqc c1 (by decide)
    refine lv_aload_n hx hb dX12_port_6 rfl (lv_at hl 0 rfl) ?_
    refine va_get (D := (dC, dI)) (ci := 12) (v := .int x2) (C := RX12) (T := TX12) (N := 72) hx hb hG inGX12 hown hK hP 0 rfl rfl 3 (by decide) (hG _ wd_1310) (fun _ h9 => h9) rfl dX12_port_7 ?_
    refine lv_goto (tgt := 66) hx hb dX12_port_10 (by decide) ?_
    exact j12 x2 _ _ hK hP hD hS ls (lv_sub hl [] rfl)
set_option maxHeartbeats 100000000 in
set_option maxRecDepth 100000 in
theorem cX12_peekByte_1 (l : Launch) (dC : Nat → ClassId) (dI : Nat → Nat → Nat) (h0 h1 h2 h3 h4 h5 h6 h7 h8 h9 h10 h11 h12 h13 h14 h15 h16 h17 : Nat) (y0 y1 y2 : ClassId) (sz : Nat) (x0 x1 x2 x3 x4 x5 x6 x7 x8 x9 x10 x11 x12 x13 x14 x15 x16 x17 x18 x19 x20 x21 x22 x23 x24 x25 x26 x27 x28 x29 x30 x31 x32 x33 x34 x35 x36 x37 x38 x39 x40 x41 x42 x43 x44 x45 x46 x47 x48 x49 x50 x51 x52 x53 x54 : Int32) (z0 : Int64) (f0 f1 f2 : Nat → Int32) (ix0 : iv x0 0 65535) (ix16 : iv x16 0 1) (ix17 : iv x17 0 40) (ix22 : iv x22 0 65535) (ix23 : iv x23 0 1) (ix24 : iv x24 0 1) (ix25 : iv x25 0 2600) (ix26 : iv x26 0 2600) (ix27 : iv x27 0 2500) (ix28 : iv x28 0 2500) (ix32 : iv x32 0 1048575) (ix33 : iv x33 0 60) (ix34 : iv x34 0 60) (ix35 : iv x35 0 1) (ix36 : iv x36 0 1) (ix37 : iv x37 0 65535) (ix42 : iv x42 0 5200) (ix43 : iv x43 0 70800) (ix47 : iv x47 0 1) (ix48 : iv x48 0 1) (ix50 : iv x50 0 100) (ix54 : iv x54 0 1) (if2 : ∀ j, iv (f2 j) (-128) 127) : Met l yX12_peekByte (Cond.code yX12_peekByte cX12_peekByte 2 (some .int) :: lw_G) ({ frames := 2, cells := 0, slots := 0, locals := 41 }) (va_Pc [.ref h0, .int x0] (fun U => U.heap.size = sz ∧ va_P (dC, dI) vwCl [(h0, .inr (12, .int x1 :: .ref h1 :: .ref h2 :: .int x2 :: .int x3 :: .int x4 :: .int x5 :: .int x6 :: .int x7 :: .int x8 :: .int x9 :: .int x10 :: [.int x11, .int x12, .int x13, .int x14, .int x15, .int x16, .ref h3, .ref h4, .ref h5, .ref h6, .int x17, .int x18, .int x19, .int x20, .int x21, .int x22, .int x23, .int x24, .ref h7, .int x25, .int x26, .int x27, .int x28, .ref h8, .ref h9, .int x29, .int x30, .long z0, .int x31, .int x32, .ref h10, .ref h11, .ref h12, .ref h13, .ref h14, .int x33, .int x34, .int x35, .int x36, .int x37, .int x38, .int x39, .int x40, .int x41, .ref h15, .ref h16, .int x42, .int x43, .int x44, .int x45, .int x46, .int x47, .int x48, .int x49, .ref h17, .int x50, .int x51, .int x52, .int x53, .int x54])), (h3, .inl (y0, 3, .inl f0)), (h4, .inl (y1, 3, .inl f1)), (h1, .inl (y2, 65536, .inl f2))] U.heap ∧ va_K (dC, dI) vwCl [(y0, .int), (y1, .int), (y2, .byte)] U ∧ va_D (fun _ => True) [(h0, .inr (12, .int x1 :: .ref h1 :: .ref h2 :: .int x2 :: .int x3 :: .int x4 :: .int x5 :: .int x6 :: .int x7 :: .int x8 :: .int x9 :: .int x10 :: [.int x11, .int x12, .int x13, .int x14, .int x15, .int x16, .ref h3, .ref h4, .ref h5, .ref h6, .int x17, .int x18, .int x19, .int x20, .int x21, .int x22, .int x23, .int x24, .ref h7, .int x25, .int x26, .int x27, .int x28, .ref h8, .ref h9, .int x29, .int x30, .long z0, .int x31, .int x32, .ref h10, .ref h11, .ref h12, .ref h13, .ref h14, .int x33, .int x34, .int x35, .int x36, .int x37, .int x38, .int x39, .int x40, .int x41, .ref h15, .ref h16, .int x42, .int x43, .int x44, .int x45, .int x46, .int x47, .int x48, .int x49, .ref h17, .int x50, .int x51, .int x52, .int x53, .int x54])), (h3, .inl (y0, 3, .inl f0)), (h4, .inl (y1, 3, .inl f1)), (h1, .inl (y2, 65536, .inl f2))])) (va_Qi (fun (r : Int32) (u : Unit) => True) (fun (u : Unit) (t : State) => va_P (dC, dI) vwCl [(h0, .inr (12, .int x1 :: .ref h1 :: .ref h2 :: .int x2 :: .int x3 :: .int x4 :: .int x5 :: .int x6 :: .int x7 :: .int x8 :: .int x9 :: .int x10 :: [.int x11, .int x12, .int x13, .int x14, .int x15, .int x16, .ref h3, .ref h4, .ref h5, .ref h6, .int x17, .int x18, .int x19, .int x20, .int x21, .int x22, .int x23, .int x24, .ref h7, .int x25, .int x26, .int x27, .int x28, .ref h8, .ref h9, .int x29, .int x30, .long z0, .int x31, .int x32, .ref h10, .ref h11, .ref h12, .ref h13, .ref h14, .int x33, .int x34, .int x35, .int x36, .int x37, .int x38, .int x39, .int x40, .int x41, .ref h15, .ref h16, .int x42, .int x43, .int x44, .int x45, .int x46, .int x47, .int x48, .int x49, .ref h17, .int x50, .int x51, .int x52, .int x53, .int x54])), (h3, .inl (y0, 3, .inl f0)), (h4, .inl (y1, 3, .inl f1)), (h1, .inl (y2, 65536, .inl f2))] t.heap ∧ va_K (dC, dI) vwCl [(y0, .int), (y1, .int), (y2, .byte)] t ∧ va_D (va_A [(h0, .inr (12, .int x1 :: .ref h1 :: .ref h2 :: .int x2 :: .int x3 :: .int x4 :: .int x5 :: .int x6 :: .int x7 :: .int x8 :: .int x9 :: .int x10 :: [.int x11, .int x12, .int x13, .int x14, .int x15, .int x16, .ref h3, .ref h4, .ref h5, .ref h6, .int x17, .int x18, .int x19, .int x20, .int x21, .int x22, .int x23, .int x24, .ref h7, .int x25, .int x26, .int x27, .int x28, .ref h8, .ref h9, .int x29, .int x30, .long z0, .int x31, .int x32, .ref h10, .ref h11, .ref h12, .ref h13, .ref h14, .int x33, .int x34, .int x35, .int x36, .int x37, .int x38, .int x39, .int x40, .int x41, .ref h15, .ref h16, .int x42, .int x43, .int x44, .int x45, .int x46, .int x47, .int x48, .int x49, .ref h17, .int x50, .int x51, .int x52, .int x53, .int x54])), (h3, .inl (y0, 3, .inl f0)), (h4, .inl (y1, 3, .inl f1)), (h1, .inl (y2, 65536, .inl f2))] sz) [(h0, .inr (12, .int x1 :: .ref h1 :: .ref h2 :: .int x2 :: .int x3 :: .int x4 :: .int x5 :: .int x6 :: .int x7 :: .int x8 :: .int x9 :: .int x10 :: [.int x11, .int x12, .int x13, .int x14, .int x15, .int x16, .ref h3, .ref h4, .ref h5, .ref h6, .int x17, .int x18, .int x19, .int x20, .int x21, .int x22, .int x23, .int x24, .ref h7, .int x25, .int x26, .int x27, .int x28, .ref h8, .ref h9, .int x29, .int x30, .long z0, .int x31, .int x32, .ref h10, .ref h11, .ref h12, .ref h13, .ref h14, .int x33, .int x34, .int x35, .int x36, .int x37, .int x38, .int x39, .int x40, .int x41, .ref h15, .ref h16, .int x42, .int x43, .int x44, .int x45, .int x46, .int x47, .int x48, .int x49, .ref h17, .int x50, .int x51, .int x52, .int x53, .int x54])), (h3, .inl (y0, 3, .inl f0)), (h4, .inl (y1, 3, .inl f1)), (h1, .inl (y2, 65536, .inl f2))]) (va_A [(h0, .inr (12, .int x1 :: .ref h1 :: .ref h2 :: .int x2 :: .int x3 :: .int x4 :: .int x5 :: .int x6 :: .int x7 :: .int x8 :: .int x9 :: .int x10 :: [.int x11, .int x12, .int x13, .int x14, .int x15, .int x16, .ref h3, .ref h4, .ref h5, .ref h6, .int x17, .int x18, .int x19, .int x20, .int x21, .int x22, .int x23, .int x24, .ref h7, .int x25, .int x26, .int x27, .int x28, .ref h8, .ref h9, .int x29, .int x30, .long z0, .int x31, .int x32, .ref h10, .ref h11, .ref h12, .ref h13, .ref h14, .int x33, .int x34, .int x35, .int x36, .int x37, .int x38, .int x39, .int x40, .int x41, .ref h15, .ref h16, .int x42, .int x43, .int x44, .int x45, .int x46, .int x47, .int x48, .int x49, .ref h17, .int x50, .int x51, .int x52, .int x53, .int x54])), (h3, .inl (y0, 3, .inl f0)), (h4, .inl (y1, 3, .inl f1)), (h1, .inl (y2, 65536, .inl f2))] sz)) 0 0 (va_A [(h0, .inr (12, .int x1 :: .ref h1 :: .ref h2 :: .int x2 :: .int x3 :: .int x4 :: .int x5 :: .int x6 :: .int x7 :: .int x8 :: .int x9 :: .int x10 :: [.int x11, .int x12, .int x13, .int x14, .int x15, .int x16, .ref h3, .ref h4, .ref h5, .ref h6, .int x17, .int x18, .int x19, .int x20, .int x21, .int x22, .int x23, .int x24, .ref h7, .int x25, .int x26, .int x27, .int x28, .ref h8, .ref h9, .int x29, .int x30, .long z0, .int x31, .int x32, .ref h10, .ref h11, .ref h12, .ref h13, .ref h14, .int x33, .int x34, .int x35, .int x36, .int x37, .int x38, .int x39, .int x40, .int x41, .ref h15, .ref h16, .int x42, .int x43, .int x44, .int x45, .int x46, .int x47, .int x48, .int x49, .ref h17, .int x50, .int x51, .int x52, .int x53, .int x54])), (h3, .inl (y0, 3, .inl f0)), (h4, .inl (y1, 3, .inl f1)), (h1, .inl (y2, 65536, .inl f2))] sz) := by
  refine Met.ofW (cc := cX12_peekByte) (maxL := 2) (ret := (some .int)) (by decide) rfl ?_
  intro p e s m args below meth c s₁ B hml hv
  obtain ⟨rfl, hsz, hP, hK, hD0⟩ := hv
  have hx := B.exec
  have hb := B.bytes
  have hr := B.returns
  have hts0 := atoms_spec (ws := Cond.code yX12_peekByte cX12_peekByte 2 (some .int) :: lw_G) B.pre
  have hG : ∀ w ∈ lw_G, w.before _ s = true := fun w h => hts0 w (List.mem_cons_of_mem _ h)
  have hown : s.vm.findClass RX12 = some m.cls := findClass_of_methodNamed B.named
  have hlocks := B.notSynchronized
  subst hsz
  have hD := hD0.self (sz := s.heap.size)
  generalize hAe : va_A [(h0, .inr (12, .int x1 :: .ref h1 :: .ref h2 :: .int x2 :: .int x3 :: .int x4 :: .int x5 :: .int x6 :: .int x7 :: .int x8 :: .int x9 :: .int x10 :: [.int x11, .int x12, .int x13, .int x14, .int x15, .int x16, .ref h3, .ref h4, .ref h5, .ref h6, .int x17, .int x18, .int x19, .int x20, .int x21, .int x22, .int x23, .int x24, .ref h7, .int x25, .int x26, .int x27, .int x28, .ref h8, .ref h9, .int x29, .int x30, .long z0, .int x31, .int x32, .ref h10, .ref h11, .ref h12, .ref h13, .ref h14, .int x33, .int x34, .int x35, .int x36, .int x37, .int x38, .int x39, .int x40, .int x41, .ref h15, .ref h16, .int x42, .int x43, .int x44, .int x45, .int x46, .int x47, .int x48, .int x49, .ref h17, .int x50, .int x51, .int x52, .int x53, .int x54])), (h3, .inl (y0, 3, .inl f0)), (h4, .inl (y1, 3, .inl f1)), (h1, .inl (y2, 65536, .inl f2))] s.heap.size = A at hD ⊢
  have hA : ∀ q : Nat, s.heap.size ≤ q → A q := fun q h => by rw [← hAe]; exact Or.inr h
  have hS : va_S A s.heap s.heap [] := va_S.rf
  have hP : va_P (dC, dI) vwCl [(h0, .inr (12, .int x1 :: .ref h1 :: .ref h2 :: .int x2 :: .int x3 :: .int x4 :: .int x5 :: .int x6 :: .int x7 :: .int x8 :: .int x9 :: .int x10 :: [.int x11, .int x12, .int x13, .int x14, .int x15, .int x16, .ref h3, .ref h4, .ref h5, .ref h6, .int x17, .int x18, .int x19, .int x20, .int x21, .int x22, .int x23, .int x24, .ref h7, .int x25, .int x26, .int x27, .int x28, .ref h8, .ref h9, .int x29, .int x30, .long z0, .int x31, .int x32, .ref h10, .ref h11, .ref h12, .ref h13, .ref h14, .int x33, .int x34, .int x35, .int x36, .int x37, .int x38, .int x39, .int x40, .int x41, .ref h15, .ref h16, .int x42, .int x43, .int x44, .int x45, .int x46, .int x47, .int x48, .int x49, .ref h17, .int x50, .int x51, .int x52, .int x53, .int x54])), (h3, .inl (y0, 3, .inl f0)), (h4, .inl (y1, 3, .inl f1)), (h1, .inl (y2, 65536, .inl f2))] s.heap := hP
  have hl := lv_entry ([.ref h0, .int x0]) (n := 2) (Nat.le_of_ble_eq_true rfl)
  rw [lg_entry_eq]
  generalize (lg_sl ([.ref h0, .int x0]) ++ List.replicate (2 - (lg_sl ([.ref h0, .int x0])).length) Slot.unset).toArray = ls at hl ⊢
  have hl : lv_has ls 2 [(0, .ref h0), (1, .int x0)] := hl
  generalize ([.ref h0, .int x0] : List Value).toArray = ar at hG ⊢
  refine wq (fun Q hQ => ?_)
  refine lv_iload_n hx hb dX12_peekByte_0 rfl (lv_at hl 1 rfl) ?_
  refine lv_sipush (v := 512) hx hb dX12_peekByte_1 (by decide) ?_
  refine lv_icmp_lt (tgt := 18) hx hb dX12_peekByte_4 (by decide) (fun c1 => ?_) (fun c1 => ?_)
  · skip
    have j2 : iv x0 0 511 := iv_ltL ix0 (by decide : iv 512 512 512) c1 (by decide)
    refine lv_iload_n hx hb dX12_peekByte_18 rfl (lv_at hl 1 rfl) ?_
    refine lv_sipush (v := 288) hx hb dX12_peekByte_19 (by decide) ?_
    refine jcut (a := ∀ (b15 : Int32) (H : Heap) (locs : List Loc) (hK : va_K (dC, dI) vwCl [(y0, .int), (y1, .int), (y2, .byte)] s) (hP : va_P (dC, dI) vwCl [(h3, .inl (y0, 3, .inl f0)), (h4, .inl (y1, 3, .inl f1)), (h1, .inl (y2, 65536, .inl f2)), (h0, .inr (12, .int x1 :: .ref h1 :: .ref h2 :: .int x2 :: .int x3 :: .int x4 :: .int x5 :: .int x6 :: .int x7 :: .int x8 :: .int x9 :: .int x10 :: [.int x11, .int x12, .int x13, .int x14, .int x15, .int x16, .ref h3, .ref h4, .ref h5, .ref h6, .int x17, .int x18, .int x19, .int x20, .int x21, .int x22, .int x23, .int x24, .ref h7, .int x25, .int x26, .int x27, .int x28, .ref h8, .ref h9, .int x29, .int x30, .long z0, .int x31, .int x32, .ref h10, .ref h11, .ref h12, .ref h13, .ref h14, .int x33, .int x34, .int x35, .int x36, .int x37, .int x38, .int x39, .int x40, .int x41, .ref h15, .ref h16, .int x42, .int x43, .int x44, .int x45, .int x46, .int x47, .int x48, .int x49, .ref h17, .int x50, .int x51, .int x52, .int x53, .int x54]))] H) (hD : va_D A [(h3, .inl (y0, 3, .inl f0)), (h4, .inl (y1, 3, .inl f1)), (h1, .inl (y2, 65536, .inl f2)), (h0, .inr (12, .int x1 :: .ref h1 :: .ref h2 :: .int x2 :: .int x3 :: .int x4 :: .int x5 :: .int x6 :: .int x7 :: .int x8 :: .int x9 :: .int x10 :: [.int x11, .int x12, .int x13, .int x14, .int x15, .int x16, .ref h3, .ref h4, .ref h5, .ref h6, .int x17, .int x18, .int x19, .int x20, .int x21, .int x22, .int x23, .int x24, .ref h7, .int x25, .int x26, .int x27, .int x28, .ref h8, .ref h9, .int x29, .int x30, .long z0, .int x31, .int x32, .ref h10, .ref h11, .ref h12, .ref h13, .ref h14, .int x33, .int x34, .int x35, .int x36, .int x37, .int x38, .int x39, .int x40, .int x41, .ref h15, .ref h16, .int x42, .int x43, .int x44, .int x45, .int x46, .int x47, .int x48, .int x49, .ref h17, .int x50, .int x51, .int x52, .int x53, .int x54]))]) (hS : va_S A s.heap H locs) (ls : Array Slot) (hl : lv_has ls 2 []), W p l e (headSpec (Cond.code yX12_peekByte cX12_peekByte 2 (some .int) :: lw_G) ({ frames := 2, cells := 0, slots := 0, locals := 41 })).room s m ar below meth c H locs 0 0 Q (F0 m 52 ls [.int b15])) ?_ (fun j16 => ?_)
    · skip
      intro b15 H locs hK hP hD hS ls hl
      rw [hQ]
      obtain ⟨hP9, hD9⟩ := nv_sub2 (wc := [(h0, .inr (12, .int x1 :: .ref h1 :: .ref h2 :: .int x2 :: .int x3 :: .int x4 :: .int x5 :: .int x6 :: .int x7 :: .int x8 :: .int x9 :: .int x10 :: [.int x11, .int x12, .int x13, .int x14, .int x15, .int x16, .ref h3, .ref h4, .ref h5, .ref h6, .int x17, .int x18, .int x19, .int x20, .int x21, .int x22, .int x23, .int x24, .ref h7, .int x25, .int x26, .int x27, .int x28, .ref h8, .ref h9, .int x29, .int x30, .long z0, .int x31, .int x32, .ref h10, .ref h11, .ref h12, .ref h13, .ref h14, .int x33, .int x34, .int x35, .int x36, .int x37, .int x38, .int x39, .int x40, .int x41, .ref h15, .ref h16, .int x42, .int x43, .int x44, .int x45, .int x46, .int x47, .int x48, .int x49, .ref h17, .int x50, .int x51, .int x52, .int x53, .int x54])), (h3, .inl (y0, 3, .inl f0)), (h4, .inl (y1, 3, .inl f1)), (h1, .inl (y2, 65536, .inl f2))]) hP hD [3, 0, 1, 2] (by decide) rfl
      have hK9 := hK.sub (tys' := [(y0, .int), (y1, .int), (y2, .byte)]) [0, 1, 2] rfl
      exact W.iret (v := b15) hx hb hr (fun t ht hW => ⟨⟨b15, (), rfl, trivial, by rw [ht]; exact hP9, va_K.moved hW.alike hK9, hD9⟩, hS.F ht⟩) hS.2.2 dX12_peekByte_52
    refine lv_icmp_lt (tgt := 47) hx hb dX12_peekByte_22 (by decide) (fun c3 => ?_) (fun c3 => ?_)
    · skip
      have j17 : iv x0 0 287 := iv_ltL j2 (by decide : iv 288 288 288) c3 (by decide)
      refine lv_aload_n hx hb dX12_peekByte_47 rfl (lv_at hl 0 rfl) ?_
      refine lv_iload_n hx hb dX12_peekByte_48 rfl (lv_at hl 1 rfl) ?_
      obtain ⟨hPc, hDc, hFc⟩ := nv_sub3 (wc := [(h0, .inr (12, .int x1 :: .ref h1 :: .ref h2 :: .int x2 :: .int x3 :: .int x4 :: .int x5 :: .int x6 :: .int x7 :: .int x8 :: .int x9 :: .int x10 :: [.int x11, .int x12, .int x13, .int x14, .int x15, .int x16, .ref h3, .ref h4, .ref h5, .ref h6, .int x17, .int x18, .int x19, .int x20, .int x21, .int x22, .int x23, .int x24, .ref h7, .int x25, .int x26, .int x27, .int x28, .ref h8, .ref h9, .int x29, .int x30, .long z0, .int x31, .int x32, .ref h10, .ref h11, .ref h12, .ref h13, .ref h14, .int x33, .int x34, .int x35, .int x36, .int x37, .int x38, .int x39, .int x40, .int x41, .ref h15, .ref h16, .int x42, .int x43, .int x44, .int x45, .int x46, .int x47, .int x48, .int x49, .ref h17, .int x50, .int x51, .int x52, .int x53, .int x54]))]) hP hD hS hA [0] (by decide) rfl
      have hKc := hK.sub (tys' := []) [] rfl
      refine va_calli (va_runV (As := [.int x0]) (rest := []) ⟨hx, hb, hml, hown, hG⟩ (cX12_port_1 l dC dI h0 h1 h2 h3 h4 h5 h6 h7 h8 h9 h10 h11 h12 h13 h14 h15 h16 h17 s.heap.size x0 x1 x2 x3 x4 x5 x6 x7 x8 x9 x10 x11 x12 x13 x14 x15 x16 x17 x18 x19 x20 x21 x22 x23 x24 x25 x26 x27 x28 x29 x30 x31 x32 x33 x34 x35 x36 x37 x38 x39 x40 x41 x42 x43 x44 x45 x46 x47 x48 x49 x50 x51 x52 x53 x54 z0 ix16 ix17 ix22 ix23 ix24 ix25 ix26 ix27 ix28 ix32 ix33 ix34 ix35 ix36 ix37 ix42 ix43 ix47 ix48 ix50 ix54) (cwV 1 hG (gV wd_1545 wd_1547 wp_69 wd_17 wd_1548) rfl rfl rfl (by decide +kernel) ⟨Nat.le_of_ble_eq_true rfl, Nat.le_of_ble_eq_true rfl⟩) ⟨fun a U g mk q => by obtain ⟨q0, q1, qP, qK, qD⟩ := q; exact ⟨q0, q1, qP, va_K.moved (u := U) (U := U.calling g mk a) (Vm.Alike.refl U.vm) qK, qD⟩, va_recv hKc hPc (ci := 12) (q0 := 0) rfl rfl, fun U hU hW => ⟨rfl, by rw [hU], by rw [hU]; exact hPc, va_K.moved hW.alike hKc, hDc.weaken (fun _ _ _ _ => trivial)⟩⟩ rfl rfl hl.1 rfl (lv_room (Nat.le_of_ble_eq_true rfl)) dX12_peekByte_49 ⟨by decide, by decide⟩) hS (fun q _ h => hFc q h) hFc (fun r18 u19 t H1 locs ht hvm hw hB hz1 hk1 hS => ?_)
      obtain ⟨hP1, hK1, hD1⟩ := hB
      rw [ht] at hP1
      have hK1 := va_K.moved hvm.symm hK1
      obtain ⟨hP, hD⟩ := nv_join (wf := [(h3, .inl (y0, 3, .inl f0)), (h4, .inl (y1, 3, .inl f1)), (h1, .inl (y2, 65536, .inl f2)), (h0, .inr (12, .int x1 :: .ref h1 :: .ref h2 :: .int x2 :: .int x3 :: .int x4 :: .int x5 :: .int x6 :: .int x7 :: .int x8 :: .int x9 :: .int x10 :: [.int x11, .int x12, .int x13, .int x14, .int x15, .int x16, .ref h3, .ref h4, .ref h5, .ref h6, .int x17, .int x18, .int x19, .int x20, .int x21, .int x22, .int x23, .int x24, .ref h7, .int x25, .int x26, .int x27, .int x28, .ref h8, .ref h9, .int x29, .int x30, .long z0, .int x31, .int x32, .ref h10, .ref h11, .ref h12, .ref h13, .ref h14, .int x33, .int x34, .int x35, .int x36, .int x37, .int x38, .int x39, .int x40, .int x41, .ref h15, .ref h16, .int x42, .int x43, .int x44, .int x45, .int x46, .int x47, .int x48, .int x49, .ref h17, .int x50, .int x51, .int x52, .int x53, .int x54]))]) hP hD [0] [1, 2, 3] rfl rfl (by decide) (by decide) hk1 hFc hP1 hD1 rfl
      have hK := (hK.sub (tys' := [(y0, .int), (y1, .int), (y2, .byte)]) [0, 1, 2] rfl).app hK1
      generalize H1 = H at hP hS ⊢
      have hK : va_K (dC, dI) vwCl [(y0, .int), (y1, .int), (y2, .byte)] s := hK
      clear hKc hPc hDc hFc hP1 hD1 hK1 hk1 hz1 hw
      exact j16 r18 _ _ hK hP hD hS ls (lv_sub hl [] rfl)
    · skip
      have j20 : iv x0 288 511 := iv_nltL j2 (by decide : iv 288 288 288) c3 (by decide)
      refine lv_aload_n hx hb dX12_peekByte_25 rfl (lv_at hl 0 rfl) ?_
      refine lv_iload_n hx hb dX12_peekByte_26 rfl (lv_at hl 1 rfl) ?_
      refine lv_bipush (v := (-2)) hx hb dX12_peekByte_27 (by decide) ?_
      refine lv_iand hx hb dX12_peekByte_29 ?_
      refine lv_topi (fun v21 ev21 => ?_)
      have iv21 : iv v21 0 511 := iv_eq ev21 (iv_andL (y := (-2)) (iv_w j20 (by decide) (by decide) : iv x0 0 511))
      obtain ⟨hPc, hDc, hFc⟩ := nv_sub3 (wc := [(h0, .inr (12, .int x1 :: .ref h1 :: .ref h2 :: .int x2 :: .int x3 :: .int x4 :: .int x5 :: .int x6 :: .int x7 :: .int x8 :: .int x9 :: .int x10 :: [.int x11, .int x12, .int x13, .int x14, .int x15, .int x16, .ref h3, .ref h4, .ref h5, .ref h6, .int x17, .int x18, .int x19, .int x20, .int x21, .int x22, .int x23, .int x24, .ref h7, .int x25, .int x26, .int x27, .int x28, .ref h8, .ref h9, .int x29, .int x30, .long z0, .int x31, .int x32, .ref h10, .ref h11, .ref h12, .ref h13, .ref h14, .int x33, .int x34, .int x35, .int x36, .int x37, .int x38, .int x39, .int x40, .int x41, .ref h15, .ref h16, .int x42, .int x43, .int x44, .int x45, .int x46, .int x47, .int x48, .int x49, .ref h17, .int x50, .int x51, .int x52, .int x53, .int x54])), (h3, .inl (y0, 3, .inl f0)), (h4, .inl (y1, 3, .inl f1))]) hP hD hS hA [0, 1, 2] (by decide) rfl
      have hKc := hK.sub (tys' := [(y0, .int), (y1, .int)]) [0, 1] rfl
      refine va_calli (va_runV (As := [.int v21]) (rest := []) ⟨hx, hb, hml, hown, hG⟩ (cX12_thing_1 l dC dI h0 h1 h2 h3 h4 h5 h6 h7 h8 h9 h10 h11 h12 h13 h14 h15 h16 h17 y0 y1 s.heap.size v21 x1 x2 x3 x4 x5 x6 x7 x8 x9 x10 x11 x12 x13 x14 x15 x16 x17 x18 x19 x20 x21 x22 x23 x24 x25 x26 x27 x28 x29 x30 x31 x32 x33 x34 x35 x36 x37 x38 x39 x40 x41 x42 x43 x44 x45 x46 x47 x48 x49 x50 x51 x52 x53 x54 z0 f0 f1 ix16 ix17 ix22 ix23 ix24 ix25 ix26 ix27 ix28 ix32 ix33 ix34 ix35 ix36 ix37 ix42 ix43 ix47 ix48 ix50 ix54) (cwV 1 hG (gV wd_1537 wd_1539 wp_67 wd_17 wd_1540) rfl rfl rfl (by decide +kernel) ⟨Nat.le_of_ble_eq_true rfl, Nat.le_of_ble_eq_true rfl⟩) ⟨fun a U g mk q => by obtain ⟨q0, q1, qP, qK, qD⟩ := q; exact ⟨q0, q1, qP, va_K.moved (u := U) (U := U.calling g mk a) (Vm.Alike.refl U.vm) qK, qD⟩, va_recv hKc hPc (ci := 12) (q0 := 0) rfl rfl, fun U hU hW => ⟨rfl, by rw [hU], by rw [hU]; exact hPc, va_K.moved hW.alike hKc, hDc.weaken (fun _ _ _ _ => trivial)⟩⟩ rfl rfl hl.1 rfl (lv_room (Nat.le_of_ble_eq_true rfl)) dX12_peekByte_30 ⟨by decide, by decide⟩) hS (fun q _ h => hFc q h) hFc (fun r22 u23 t H1 locs ht hvm hw hB hz1 hk1 hS => ?_)
      obtain ⟨hP1, hK1, hD1⟩ := hB
      rw [ht] at hP1
      have hK1 := va_K.moved hvm.symm hK1
      obtain ⟨hP, hD⟩ := nv_join (wf := [(h1, .inl (y2, 65536, .inl f2)), (h0, .inr (12, .int x1 :: .ref h1 :: .ref h2 :: .int x2 :: .int x3 :: .int x4 :: .int x5 :: .int x6 :: .int x7 :: .int x8 :: .int x9 :: .int x10 :: [.int x11, .int x12, .int x13, .int x14, .int x15, .int x16, .ref h3, .ref h4, .ref h5, .ref h6, .int x17, .int x18, .int x19, .int x20, .int x21, .int x22, .int x23, .int x24, .ref h7, .int x25, .int x26, .int x27, .int x28, .ref h8, .ref h9, .int x29, .int x30, .long z0, .int x31, .int x32, .ref h10, .ref h11, .ref h12, .ref h13, .ref h14, .int x33, .int x34, .int x35, .int x36, .int x37, .int x38, .int x39, .int x40, .int x41, .ref h15, .ref h16, .int x42, .int x43, .int x44, .int x45, .int x46, .int x47, .int x48, .int x49, .ref h17, .int x50, .int x51, .int x52, .int x53, .int x54])), (h3, .inl (y0, 3, .inl f0)), (h4, .inl (y1, 3, .inl f1))]) hP hD [0, 1, 2] [3] rfl rfl (by decide) (by decide) hk1 hFc hP1 hD1 rfl
      have hK := (hK.sub (tys' := [(y2, .byte)]) [2] rfl).app hK1
      generalize H1 = H at hP hS ⊢
      have hK : va_K (dC, dI) vwCl [(y2, .byte), (y0, .int), (y1, .int)] s := hK
      clear hKc hPc hDc hFc hP1 hD1 hK1 hk1 hz1 hw
      refine lv_bipush (v := 8) hx hb dX12_peekByte_33 (by decide) ?_
      refine lv_iload_n hx hb dX12_peekByte_35 rfl (lv_at hl 1 rfl) ?_
      refine lv_iconst (v := 1) hx hb dX12_peekByte_36 (by decide) ?_
      refine lv_iand hx hb dX12_peekByte_37 ?_
      refine lv_topi (fun v24 ev24 => ?_)
      have iv24 : iv v24 0 1 := iv_eq ev24 (iv_and (x := x0) (iv_w (by decide : iv 1 1 1) (by decide) (by decide) : iv 1 0 1))
      refine lv_imul hx hb dX12_peekByte_38 ?_
      refine lv_topi (fun v25 ev25 => ?_)
      have iv25 : iv v25 0 8 := iv_eq ev25 (iv_mul (by decide : iv 8 8 8) iv24 (by decide) (by decide) (by decide))
      refine lv_ishr hx hb dX12_peekByte_39 ?_
      refine lv_topi (fun v26 ev26 => ?_)
      refine lv_sipush (v := 255) hx hb dX12_peekByte_40 (by decide) ?_
      refine lv_iand hx hb dX12_peekByte_43 ?_
      refine lv_topi (fun v27 ev27 => ?_)
      have iv27 : iv v27 0 255 := iv_eq ev27 (iv_and (x := v26) (iv_w (by decide : iv 255 255 255) (by decide) (by decide) : iv 255 0 255))
      refine lv_goto (tgt := 52) hx hb dX12_peekByte_44 (by decide) ?_
      exact j16 v27 _ _ (hK.sub (tys' := _) [1, 2, 0] rfl) (hP.sub (ws' := _) [2, 3, 0, 1] rfl) (hD.sub (ws' := _) [2, 3, 0, 1] (by decide) rfl) hS ls (lv_sub hl [] rfl)
  · skip
    have j28 : iv x0 512 65535 := iv_nltL ix0 (by decide : iv 512 512 512) c1 (by decide)
    refine lv_aload_n hx hb dX12_peekByte_7 rfl (lv_at hl 0 rfl) ?_
    refine va_get (D := (dC, dI)) (ci := 12) (v := .ref h1) (C := RX12) (T := TX12) (N := 72) hx hb hG inGX12 hown hK hP 0 rfl rfl 1 (by decide) (hG _ wd_1308) (fun _ h9 => h9) rfl dX12_peekByte_8 ?_
    refine lv_iload_n hx hb dX12_peekByte_11 rfl (lv_at hl 1 rfl) ?_
    refine va_bald hx hb hK hP 3 2 rfl rfl (iv_in j28 (by decide) (by decide) : vp_in x0 65536) dX12_peekByte_12 ?_
    refine lv_topi (fun v29 ev29 => ?_)
    have iv29 : iv v29 (-128) 127 := iv_eq ev29 (if2 _)
    refine lv_sipush (v := 255) hx hb dX12_peekByte_13 (by decide) ?_
    refine lv_iand hx hb dX12_peekByte_16 ?_
    refine lv_topi (fun v30 ev30 => ?_)
    have iv30 : iv v30 0 255 := iv_eq ev30 (iv_and (x := v29) (iv_w (by decide : iv 255 255 255) (by decide) (by decide) : iv 255 0 255))
    rw [hQ]
    obtain ⟨hP9, hD9⟩ := nv_sub2 (wc := [(h0, .inr (12, .int x1 :: .ref h1 :: .ref h2 :: .int x2 :: .int x3 :: .int x4 :: .int x5 :: .int x6 :: .int x7 :: .int x8 :: .int x9 :: .int x10 :: [.int x11, .int x12, .int x13, .int x14, .int x15, .int x16, .ref h3, .ref h4, .ref h5, .ref h6, .int x17, .int x18, .int x19, .int x20, .int x21, .int x22, .int x23, .int x24, .ref h7, .int x25, .int x26, .int x27, .int x28, .ref h8, .ref h9, .int x29, .int x30, .long z0, .int x31, .int x32, .ref h10, .ref h11, .ref h12, .ref h13, .ref h14, .int x33, .int x34, .int x35, .int x36, .int x37, .int x38, .int x39, .int x40, .int x41, .ref h15, .ref h16, .int x42, .int x43, .int x44, .int x45, .int x46, .int x47, .int x48, .int x49, .ref h17, .int x50, .int x51, .int x52, .int x53, .int x54])), (h3, .inl (y0, 3, .inl f0)), (h4, .inl (y1, 3, .inl f1)), (h1, .inl (y2, 65536, .inl f2))]) hP hD [0, 1, 2, 3] (by decide) rfl
    have hK9 := hK.sub (tys' := [(y0, .int), (y1, .int), (y2, .byte)]) [0, 1, 2] rfl
    exact W.iret (v := v30) hx hb hr (fun t ht hW => ⟨⟨v30, (), rfl, trivial, by rw [ht]; exact hP9, va_K.moved hW.alike hK9, hD9⟩, hS.F ht⟩) hS.2.2 dX12_peekByte_17
