set_option maxHeartbeats 100000000 in
set_option maxRecDepth 100000 in
theorem cX12_readNumber_1 (l : Launch) (dC : Nat → ClassId) (dI : Nat → Nat → Nat) (h0 h1 h2 h3 h4 h5 h6 h7 h8 h9 h10 h11 h12 h13 h14 h15 h16 h17 : Nat) (y0 : ClassId) (sz : Nat) (x0 x1 x2 x3 x4 x5 x6 x7 x8 x9 x10 x11 x12 x13 x14 x15 x16 x17 x18 x19 x20 x21 x22 x23 x24 x25 x26 x27 x28 x29 x30 x31 x32 x33 x34 x35 x36 x37 x38 x39 x40 x41 x42 x43 x44 x45 x46 x47 x48 x49 x50 x51 x52 x53 : Int32) (z0 : Int64) (f0 : Nat → Int32) (ix15 : iv x15 0 1) (ix16 : iv x16 0 40) (ix21 : iv x21 0 65535) (ix22 : iv x22 0 1) (ix23 : iv x23 0 1) (ix24 : iv x24 0 2600) (ix25 : iv x25 0 2600) (ix26 : iv x26 0 2500) (ix27 : iv x27 0 2500) (ix31 : iv x31 0 1048575) (ix32 : iv x32 0 60) (ix33 : iv x33 0 60) (ix34 : iv x34 0 1) (ix35 : iv x35 0 1) (ix36 : iv x36 0 65535) (ix41 : iv x41 0 5200) (ix42 : iv x42 0 70800) (ix46 : iv x46 0 1) (ix47 : iv x47 0 1) (ix49 : iv x49 0 100) (ix53 : iv x53 0 1) (if0 : ∀ j, iv (f0 j) (-128) 127) (q0 : x26.toInt ≤ x27.toInt) : Met l yX12_readNumber (Cond.code yX12_readNumber cX12_readNumber 7 (some .boolean) :: lw_G) ({ frames := 2, cells := 0, slots := 0, locals := 40 }) (va_Pc [.ref h0] (fun U => U.heap.size = sz ∧ va_P (dC, dI) vwCl [(h0, .inr (12, .int x0 :: .ref h1 :: .ref h2 :: .int x1 :: .int x2 :: .int x3 :: .int x4 :: .int x5 :: .int x6 :: .int x7 :: .int x8 :: .int x9 :: [.int x10, .int x11, .int x12, .int x13, .int x14, .int x15, .ref h3, .ref h4, .ref h5, .ref h6, .int x16, .int x17, .int x18, .int x19, .int x20, .int x21, .int x22, .int x23, .ref h7, .int x24, .int x25, .int x26, .int x27, .ref h8, .ref h9, .int x28, .int x29, .long z0, .int x30, .int x31, .ref h10, .ref h11, .ref h12, .ref h13, .ref h14, .int x32, .int x33, .int x34, .int x35, .int x36, .int x37, .int x38, .int x39, .int x40, .ref h15, .ref h16, .int x41, .int x42, .int x43, .int x44, .int x45, .int x46, .int x47, .int x48, .ref h17, .int x49, .int x50, .int x51, .int x52, .int x53])), (h7, .inl (y0, 2600, .inl f0))] U.heap ∧ va_K (dC, dI) vwCl [(y0, .byte)] U ∧ va_D (fun _ => True) [(h0, .inr (12, .int x0 :: .ref h1 :: .ref h2 :: .int x1 :: .int x2 :: .int x3 :: .int x4 :: .int x5 :: .int x6 :: .int x7 :: .int x8 :: .int x9 :: [.int x10, .int x11, .int x12, .int x13, .int x14, .int x15, .ref h3, .ref h4, .ref h5, .ref h6, .int x16, .int x17, .int x18, .int x19, .int x20, .int x21, .int x22, .int x23, .ref h7, .int x24, .int x25, .int x26, .int x27, .ref h8, .ref h9, .int x28, .int x29, .long z0, .int x30, .int x31, .ref h10, .ref h11, .ref h12, .ref h13, .ref h14, .int x32, .int x33, .int x34, .int x35, .int x36, .int x37, .int x38, .int x39, .int x40, .ref h15, .ref h16, .int x41, .int x42, .int x43, .int x44, .int x45, .int x46, .int x47, .int x48, .ref h17, .int x49, .int x50, .int x51, .int x52, .int x53])), (h7, .inl (y0, 2600, .inl f0))])) (va_Qi (fun (r : Int32) (u : Int32 × Int32 × Int32 × Int32) => iv r 0 1 ∧ iv u.1 0 2500 ∧ iv u.2.2.2 0 1048575 ∧ (x26.toInt ≤ u.1.toInt) ∧ (u.1.toInt ≤ x27.toInt) ∧ (x26.toInt + r.toInt ≤ u.1.toInt) ∧ True) (fun (u : Int32 × Int32 × Int32 × Int32) (t : State) => va_P (dC, dI) vwCl [(h0, .inr (12, .int x0 :: .ref h1 :: .ref h2 :: .int x1 :: .int x2 :: .int x3 :: .int x4 :: .int x5 :: .int x6 :: .int x7 :: .int x8 :: .int x9 :: [.int x10, .int x11, .int x12, .int x13, .int x14, .int x15, .ref h3, .ref h4, .ref h5, .ref h6, .int x16, .int x17, .int x18, .int x19, .int x20, .int x21, .int x22, .int x23, .ref h7, .int x24, .int x25, .int u.1, .int x27, .ref h8, .ref h9, .int u.2.1, .int u.2.2.1, .long z0, .int x30, .int u.2.2.2, .ref h10, .ref h11, .ref h12, .ref h13, .ref h14, .int x32, .int x33, .int x34, .int x35, .int x36, .int x37, .int x38, .int x39, .int x40, .ref h15, .ref h16, .int x41, .int x42, .int x43, .int x44, .int x45, .int x46, .int x47, .int x48, .ref h17, .int x49, .int x50, .int x51, .int x52, .int x53])), (h7, .inl (y0, 2600, .inl f0))] t.heap ∧ va_K (dC, dI) vwCl [(y0, .byte)] t ∧ va_D (va_A [(h0, .inr (12, .int x0 :: .ref h1 :: .ref h2 :: .int x1 :: .int x2 :: .int x3 :: .int x4 :: .int x5 :: .int x6 :: .int x7 :: .int x8 :: .int x9 :: [.int x10, .int x11, .int x12, .int x13, .int x14, .int x15, .ref h3, .ref h4, .ref h5, .ref h6, .int x16, .int x17, .int x18, .int x19, .int x20, .int x21, .int x22, .int x23, .ref h7, .int x24, .int x25, .int x26, .int x27, .ref h8, .ref h9, .int x28, .int x29, .long z0, .int x30, .int x31, .ref h10, .ref h11, .ref h12, .ref h13, .ref h14, .int x32, .int x33, .int x34, .int x35, .int x36, .int x37, .int x38, .int x39, .int x40, .ref h15, .ref h16, .int x41, .int x42, .int x43, .int x44, .int x45, .int x46, .int x47, .int x48, .ref h17, .int x49, .int x50, .int x51, .int x52, .int x53])), (h7, .inl (y0, 2600, .inl f0))] sz) [(h0, .inr (12, .int x0 :: .ref h1 :: .ref h2 :: .int x1 :: .int x2 :: .int x3 :: .int x4 :: .int x5 :: .int x6 :: .int x7 :: .int x8 :: .int x9 :: [.int x10, .int x11, .int x12, .int x13, .int x14, .int x15, .ref h3, .ref h4, .ref h5, .ref h6, .int x16, .int x17, .int x18, .int x19, .int x20, .int x21, .int x22, .int x23, .ref h7, .int x24, .int x25, .int u.1, .int x27, .ref h8, .ref h9, .int u.2.1, .int u.2.2.1, .long z0, .int x30, .int u.2.2.2, .ref h10, .ref h11, .ref h12, .ref h13, .ref h14, .int x32, .int x33, .int x34, .int x35, .int x36, .int x37, .int x38, .int x39, .int x40, .ref h15, .ref h16, .int x41, .int x42, .int x43, .int x44, .int x45, .int x46, .int x47, .int x48, .ref h17, .int x49, .int x50, .int x51, .int x52, .int x53])), (h7, .inl (y0, 2600, .inl f0))]) (va_A [(h0, .inr (12, .int x0 :: .ref h1 :: .ref h2 :: .int x1 :: .int x2 :: .int x3 :: .int x4 :: .int x5 :: .int x6 :: .int x7 :: .int x8 :: .int x9 :: [.int x10, .int x11, .int x12, .int x13, .int x14, .int x15, .ref h3, .ref h4, .ref h5, .ref h6, .int x16, .int x17, .int x18, .int x19, .int x20, .int x21, .int x22, .int x23, .ref h7, .int x24, .int x25, .int x26, .int x27, .ref h8, .ref h9, .int x28, .int x29, .long z0, .int x30, .int x31, .ref h10, .ref h11, .ref h12, .ref h13, .ref h14, .int x32, .int x33, .int x34, .int x35, .int x36, .int x37, .int x38, .int x39, .int x40, .ref h15, .ref h16, .int x41, .int x42, .int x43, .int x44, .int x45, .int x46, .int x47, .int x48, .ref h17, .int x49, .int x50, .int x51, .int x52, .int x53])), (h7, .inl (y0, 2600, .inl f0))] sz)) 0 0 (va_A [(h0, .inr (12, .int x0 :: .ref h1 :: .ref h2 :: .int x1 :: .int x2 :: .int x3 :: .int x4 :: .int x5 :: .int x6 :: .int x7 :: .int x8 :: .int x9 :: [.int x10, .int x11, .int x12, .int x13, .int x14, .int x15, .ref h3, .ref h4, .ref h5, .ref h6, .int x16, .int x17, .int x18, .int x19, .int x20, .int x21, .int x22, .int x23, .ref h7, .int x24, .int x25, .int x26, .int x27, .ref h8, .ref h9, .int x28, .int x29, .long z0, .int x30, .int x31, .ref h10, .ref h11, .ref h12, .ref h13, .ref h14, .int x32, .int x33, .int x34, .int x35, .int x36, .int x37, .int x38, .int x39, .int x40, .ref h15, .ref h16, .int x41, .int x42, .int x43, .int x44, .int x45, .int x46, .int x47, .int x48, .ref h17, .int x49, .int x50, .int x51, .int x52, .int x53])), (h7, .inl (y0, 2600, .inl f0))] sz) := by
  refine Met.ofW (cc := cX12_readNumber) (maxL := 7) (ret := (some .boolean)) (by decide) rfl ?_
  intro p e s m args below meth c s₁ B hml hv
  obtain ⟨rfl, hsz, hP, hK, hD0⟩ := hv
  have hx := B.exec
  have hb := B.bytes
  have hr := B.returns
  have hts0 := atoms_spec (ws := Cond.code yX12_readNumber cX12_readNumber 7 (some .boolean) :: lw_G) B.pre
  have hG : ∀ w ∈ lw_G, w.before _ s = true := fun w h => hts0 w (List.mem_cons_of_mem _ h)
  have hown : s.vm.findClass RX12 = some m.cls := findClass_of_methodNamed B.named
  have hlocks := B.notSynchronized
  subst hsz
  have hD := hD0.self (sz := s.heap.size)
  generalize hAe : va_A [(h0, .inr (12, .int x0 :: .ref h1 :: .ref h2 :: .int x1 :: .int x2 :: .int x3 :: .int x4 :: .int x5 :: .int x6 :: .int x7 :: .int x8 :: .int x9 :: [.int x10, .int x11, .int x12, .int x13, .int x14, .int x15, .ref h3, .ref h4, .ref h5, .ref h6, .int x16, .int x17, .int x18, .int x19, .int x20, .int x21, .int x22, .int x23, .ref h7, .int x24, .int x25, .int x26, .int x27, .ref h8, .ref h9, .int x28, .int x29, .long z0, .int x30, .int x31, .ref h10, .ref h11, .ref h12, .ref h13, .ref h14, .int x32, .int x33, .int x34, .int x35, .int x36, .int x37, .int x38, .int x39, .int x40, .ref h15, .ref h16, .int x41, .int x42, .int x43, .int x44, .int x45, .int x46, .int x47, .int x48, .ref h17, .int x49, .int x50, .int x51, .int x52, .int x53])), (h7, .inl (y0, 2600, .inl f0))] s.heap.size = A at hD ⊢
  have hA : ∀ q : Nat, s.heap.size ≤ q → A q := fun q h => by rw [← hAe]; exact Or.inr h
  have hS : va_S A s.heap s.heap [] := va_S.rf
  have hP : va_P (dC, dI) vwCl [(h0, .inr (12, .int x0 :: .ref h1 :: .ref h2 :: .int x1 :: .int x2 :: .int x3 :: .int x4 :: .int x5 :: .int x6 :: .int x7 :: .int x8 :: .int x9 :: [.int x10, .int x11, .int x12, .int x13, .int x14, .int x15, .ref h3, .ref h4, .ref h5, .ref h6, .int x16, .int x17, .int x18, .int x19, .int x20, .int x21, .int x22, .int x23, .ref h7, .int x24, .int x25, .int x26, .int x27, .ref h8, .ref h9, .int x28, .int x29, .long z0, .int x30, .int x31, .ref h10, .ref h11, .ref h12, .ref h13, .ref h14, .int x32, .int x33, .int x34, .int x35, .int x36, .int x37, .int x38, .int x39, .int x40, .ref h15, .ref h16, .int x41, .int x42, .int x43, .int x44, .int x45, .int x46, .int x47, .int x48, .ref h17, .int x49, .int x50, .int x51, .int x52, .int x53])), (h7, .inl (y0, 2600, .inl f0))] s.heap := hP
  have hl := lv_entry ([.ref h0]) (n := 7) (Nat.le_of_ble_eq_true rfl)
  rw [lg_entry_eq]
  generalize (lg_sl ([.ref h0]) ++ List.replicate (7 - (lg_sl ([.ref h0])).length) Slot.unset).toArray = ls at hl ⊢
  have hl : lv_has ls 7 [(0, .ref h0)] := hl
  generalize ([.ref h0] : List Value).toArray = ar at hG ⊢
  refine wq (fun Q hQ => ?_)
  refine lv_aload_n hx hb dX12_readNumber_0 rfl (lv_at hl 0 rfl) ?_
  obtain ⟨hPc, hDc, hFc⟩ := nv_sub3 (wc := [(h0, .inr (12, .int x0 :: .ref h1 :: .ref h2 :: .int x1 :: .int x2 :: .int x3 :: .int x4 :: .int x5 :: .int x6 :: .int x7 :: .int x8 :: .int x9 :: [.int x10, .int x11, .int x12, .int x13, .int x14, .int x15, .ref h3, .ref h4, .ref h5, .ref h6, .int x16, .int x17, .int x18, .int x19, .int x20, .int x21, .int x22, .int x23, .ref h7, .int x24, .int x25, .int x26, .int x27, .ref h8, .ref h9, .int x28, .int x29, .long z0, .int x30, .int x31, .ref h10, .ref h11, .ref h12, .ref h13, .ref h14, .int x32, .int x33, .int x34, .int x35, .int x36, .int x37, .int x38, .int x39, .int x40, .ref h15, .ref h16, .int x41, .int x42, .int x43, .int x44, .int x45, .int x46, .int x47, .int x48, .ref h17, .int x49, .int x50, .int x51, .int x52, .int x53])), (h7, .inl (y0, 2600, .inl f0))]) hP hD hS hA [0, 1] (by decide) rfl
  have hKc := hK.sub (tys' := [(y0, .byte)]) [0] rfl
  have oh1 : x26.toInt ≤ x27.toInt := by omega
  refine va_callv (va_runV (As := []) (rest := []) ⟨hx, hb, hml, hown, hG⟩ (cX12_blanks_1 l dC dI h0 h1 h2 h3 h4 h5 h6 h7 h8 h9 h10 h11 h12 h13 h14 h15 h16 h17 y0 s.heap.size x0 x1 x2 x3 x4 x5 x6 x7 x8 x9 x10 x11 x12 x13 x14 x15 x16 x17 x18 x19 x20 x21 x22 x23 x24 x25 x26 x27 x28 x29 x30 x31 x32 x33 x34 x35 x36 x37 x38 x39 x40 x41 x42 x43 x44 x45 x46 x47 x48 x49 x50 x51 x52 x53 z0 f0 ix15 ix16 ix21 ix22 ix23 ix24 ix25 ix26 ix27 ix31 ix32 ix33 ix34 ix35 ix36 ix41 ix42 ix46 ix47 ix49 ix53 if0 oh1) (cwV 0 hG (gV wd_1716 wd_1718 wp_98 wd_17 wd_1719) rfl rfl rfl (by decide +kernel) ⟨Nat.le_of_ble_eq_true rfl, Nat.le_of_ble_eq_true rfl⟩) ⟨fun a U g mk q => by obtain ⟨q0, q1, qP, qK, qD⟩ := q; exact ⟨q0, q1, qP, va_K.moved (u := U) (U := U.calling g mk a) (Vm.Alike.refl U.vm) qK, qD⟩, va_recv hKc hPc (ci := 12) (q0 := 0) rfl rfl, fun U hU hW => ⟨rfl, by rw [hU], by rw [hU]; exact hPc, va_K.moved hW.alike hKc, hDc.weaken (fun _ _ _ _ => trivial)⟩⟩ rfl rfl hl.1 rfl (lv_room (Nat.le_of_ble_eq_true rfl)) dX12_readNumber_1 ⟨by decide, by decide⟩) hS (fun q _ h => hFc q h) hFc (fun u3 t H1 locs ht hvm hw hB hz1 hk1 hS => ?_)
  obtain ⟨u3_0, rfl⟩ : ∃ z, z = u3 := ⟨_, rfl⟩
  have hw : iv u3_0 0 2500 ∧ (x26.toInt ≤ u3_0.toInt) ∧ (u3_0.toInt ≤ x27.toInt) ∧ True := hw
  obtain ⟨iu3_0, op4, op5, -⟩ := hw
  obtain ⟨hP1, hK1, hD1⟩ := hB
  rw [ht] at hP1
  have hK1 := va_K.moved hvm.symm hK1
  obtain ⟨hP, hD⟩ := nv_join (wf := [(h0, .inr (12, .int x0 :: .ref h1 :: .ref h2 :: .int x1 :: .int x2 :: .int x3 :: .int x4 :: .int x5 :: .int x6 :: .int x7 :: .int x8 :: .int x9 :: [.int x10, .int x11, .int x12, .int x13, .int x14, .int x15, .ref h3, .ref h4, .ref h5, .ref h6, .int x16, .int x17, .int x18, .int x19, .int x20, .int x21, .int x22, .int x23, .ref h7, .int x24, .int x25, .int u3_0, .int x27, .ref h8, .ref h9, .int x28, .int x29, .long z0, .int x30, .int x31, .ref h10, .ref h11, .ref h12, .ref h13, .ref h14, .int x32, .int x33, .int x34, .int x35, .int x36, .int x37, .int x38, .int x39, .int x40, .ref h15, .ref h16, .int x41, .int x42, .int x43, .int x44, .int x45, .int x46, .int x47, .int x48, .ref h17, .int x49, .int x50, .int x51, .int x52, .int x53])), (h7, .inl (y0, 2600, .inl f0))]) hP hD [0, 1] [] rfl rfl (by decide) (by decide) hk1 hFc hP1 hD1 rfl
  have hK := (hK.sub (tys' := []) [] rfl).app hK1
  generalize H1 = H at hP hS ⊢
  have hK : va_K (dC, dI) vwCl [(y0, .byte)] s := hK
  clear hKc hPc hDc hFc hP1 hD1 hK1 hk1 hz1
  refine lv_aload_n hx hb dX12_readNumber_4 rfl (lv_at hl 0 rfl) ?_
  refine va_get (D := (dC, dI)) (ci := 12) (v := .int u3_0) (C := RX12) (T := TX12) (N := 72) hx hb hG inGX12 hown hK hP 0 rfl rfl 33 (by decide) (hG _ wd_1340) (fun _ h9 => h9) rfl dX12_readNumber_5 ?_
  refine lv_istore_n (lv' := [(1, .int u3_0), (0, .ref h0)]) hx hb dX12_readNumber_8 rfl hl (by decide) rfl (fun ls hl => ?_)
  refine lv_aload_n hx hb dX12_readNumber_9 rfl (lv_at hl 1 rfl) ?_
  obtain ⟨hPc, hDc, hFc⟩ := nv_sub3 (wc := [(h0, .inr (12, .int x0 :: .ref h1 :: .ref h2 :: .int x1 :: .int x2 :: .int x3 :: .int x4 :: .int x5 :: .int x6 :: .int x7 :: .int x8 :: .int x9 :: [.int x10, .int x11, .int x12, .int x13, .int x14, .int x15, .ref h3, .ref h4, .ref h5, .ref h6, .int x16, .int x17, .int x18, .int x19, .int x20, .int x21, .int x22, .int x23, .ref h7, .int x24, .int x25, .int u3_0, .int x27, .ref h8, .ref h9, .int x28, .int x29, .long z0, .int x30, .int x31, .ref h10, .ref h11, .ref h12, .ref h13, .ref h14, .int x32, .int x33, .int x34, .int x35, .int x36, .int x37, .int x38, .int x39, .int x40, .ref h15, .ref h16, .int x41, .int x42, .int x43, .int x44, .int x45, .int x46, .int x47, .int x48, .ref h17, .int x49, .int x50, .int x51, .int x52, .int x53])), (h7, .inl (y0, 2600, .inl f0))]) hP hD hS hA [0, 1] (by decide) rfl
  have hKc := hK.sub (tys' := [(y0, .byte)]) [0] rfl
  have oh6 : u3_0.toInt ≤ x27.toInt := by omega
  refine va_calli (va_runV (As := []) (rest := []) ⟨hx, hb, hml, hown, hG⟩ (cX12_peek__1 l dC dI h0 h1 h2 h3 h4 h5 h6 h7 h8 h9 h10 h11 h12 h13 h14 h15 h16 h17 y0 H.size x0 x1 x2 x3 x4 x5 x6 x7 x8 x9 x10 x11 x12 x13 x14 x15 x16 x17 x18 x19 x20 x21 x22 x23 x24 x25 u3_0 x27 x28 x29 x30 x31 x32 x33 x34 x35 x36 x37 x38 x39 x40 x41 x42 x43 x44 x45 x46 x47 x48 x49 x50 x51 x52 x53 z0 f0 ix15 ix16 ix21 ix22 ix23 ix24 ix25 iu3_0 ix27 ix31 ix32 ix33 ix34 ix35 ix36 ix41 ix42 ix46 ix47 ix49 ix53 if0 oh6) (cwV 0 hG (gV wd_1720 wd_1722 wp_99 wd_17 wd_1723) rfl rfl rfl (by decide +kernel) ⟨Nat.le_of_ble_eq_true rfl, Nat.le_of_ble_eq_true rfl⟩) ⟨fun a U g mk q => by obtain ⟨q0, q1, qP, qK, qD⟩ := q; exact ⟨q0, q1, qP, va_K.moved (u := U) (U := U.calling g mk a) (Vm.Alike.refl U.vm) qK, qD⟩, va_recv hKc hPc (ci := 12) (q0 := 0) rfl rfl, fun U hU hW => ⟨rfl, by rw [hU], by rw [hU]; exact hPc, va_K.moved hW.alike hKc, hDc.weaken (fun _ _ _ _ => trivial)⟩⟩ rfl rfl hl.1 rfl (lv_room (Nat.le_of_ble_eq_true rfl)) dX12_readNumber_10 ⟨by decide, by decide⟩) hS (fun q _ h => hFc q h) hFc (fun r7 u8 t H1 locs ht hvm hw hB hz1 hk1 hS => ?_)
  have hw : iv r7 (-1) 255 ∧ (256 * (u3_0.toInt + 1 - x27.toInt) ≤ 255 - r7.toInt) ∧ (r7.toInt = (pkf u3_0 x27 f0).toInt) ∧ True := hw
  obtain ⟨ir7, op9, op10, -⟩ := hw
  obtain ⟨hP1, hK1, hD1⟩ := hB
  rw [ht] at hP1
  have hK1 := va_K.moved hvm.symm hK1
  obtain ⟨hP, hD⟩ := nv_join (wf := [(h0, .inr (12, .int x0 :: .ref h1 :: .ref h2 :: .int x1 :: .int x2 :: .int x3 :: .int x4 :: .int x5 :: .int x6 :: .int x7 :: .int x8 :: .int x9 :: [.int x10, .int x11, .int x12, .int x13, .int x14, .int x15, .ref h3, .ref h4, .ref h5, .ref h6, .int x16, .int x17, .int x18, .int x19, .int x20, .int x21, .int x22, .int x23, .ref h7, .int x24, .int x25, .int u3_0, .int x27, .ref h8, .ref h9, .int x28, .int x29, .long z0, .int x30, .int x31, .ref h10, .ref h11, .ref h12, .ref h13, .ref h14, .int x32, .int x33, .int x34, .int x35, .int x36, .int x37, .int x38, .int x39, .int x40, .ref h15, .ref h16, .int x41, .int x42, .int x43, .int x44, .int x45, .int x46, .int x47, .int x48, .ref h17, .int x49, .int x50, .int x51, .int x52, .int x53])), (h7, .inl (y0, 2600, .inl f0))]) hP hD [0, 1] [] rfl rfl (by decide) (by decide) hk1 hFc hP1 hD1 rfl
  have hK := (hK.sub (tys' := []) [] rfl).app hK1
  generalize H1 = H at hP hS ⊢
  have hK : va_K (dC, dI) vwCl [(y0, .byte)] s := hK
  clear hKc hPc hDc hFc hP1 hD1 hK1 hk1 hz1
  obtain ⟨hPc, hDc, hFc⟩ := nv_sub3 (wc := []) hP hD hS hA [] (by decide) rfl
  have hKc := hK.sub (tys' := []) [] rfl
  refine va_calli (va_runS (As := [.int r7]) (rest := []) ⟨hx, hb, hml, hown, hG⟩ (cX12_isDigit_1 l dC dI H.size r7) (va_cwS 1 hG (gS wd_1735 wd_1736 wd_17 wd_1737) rfl rfl rfl (by decide +kernel) ⟨Nat.le_of_ble_eq_true rfl, Nat.le_of_ble_eq_true rfl⟩) ⟨fun a U g mk q => by obtain ⟨q0, q1, qP, qK, qD⟩ := q; exact ⟨q0, q1, qP, va_K.moved (u := U) (U := U.calling g mk a) (Vm.Alike.refl U.vm) qK, qD⟩, fun U hU hW => ⟨rfl, by rw [hU], by rw [hU]; exact hPc, va_K.moved hW.alike hKc, hDc.weaken (fun _ _ _ _ => trivial)⟩⟩ rfl rfl hl.1 rfl (lv_room (Nat.le_of_ble_eq_true rfl)) dX12_readNumber_13 ⟨by decide, by decide⟩) hS (fun q _ h => hFc q h) hFc (fun r11 u12 t H1 locs ht hvm hw hB hz1 hk1 hS => ?_)
  have hw : iv r11 0 1 ∧ (48 * r11.toInt ≤ r7.toInt + 2147483648 * (1 - r11.toInt)) ∧ (r7.toInt ≤ 57 * r11.toInt + 2147483647 * (1 - r11.toInt)) ∧ (r11.toInt = 1 ∨ r7.toInt < 48 ∨ 57 < r7.toInt) ∧ True := hw
  obtain ⟨ir11, op13, op14, op15, -⟩ := hw
  obtain ⟨hP1, hK1, hD1⟩ := hB
  rw [ht] at hP1
  have hK1 := va_K.moved hvm.symm hK1
  obtain ⟨hP, hD⟩ := nv_join (wf := [(h0, .inr (12, .int x0 :: .ref h1 :: .ref h2 :: .int x1 :: .int x2 :: .int x3 :: .int x4 :: .int x5 :: .int x6 :: .int x7 :: .int x8 :: .int x9 :: [.int x10, .int x11, .int x12, .int x13, .int x14, .int x15, .ref h3, .ref h4, .ref h5, .ref h6, .int x16, .int x17, .int x18, .int x19, .int x20, .int x21, .int x22, .int x23, .ref h7, .int x24, .int x25, .int u3_0, .int x27, .ref h8, .ref h9, .int x28, .int x29, .long z0, .int x30, .int x31, .ref h10, .ref h11, .ref h12, .ref h13, .ref h14, .int x32, .int x33, .int x34, .int x35, .int x36, .int x37, .int x38, .int x39, .int x40, .ref h15, .ref h16, .int x41, .int x42, .int x43, .int x44, .int x45, .int x46, .int x47, .int x48, .ref h17, .int x49, .int x50, .int x51, .int x52, .int x53])), (h7, .inl (y0, 2600, .inl f0))]) hP hD [] [0, 1] rfl rfl (by decide) (by decide) hk1 hFc hP1 hD1 rfl
  have hK := (hK.sub (tys' := [(y0, .byte)]) [0] rfl).app hK1
  generalize H1 = H at hP hS ⊢
  have hK : va_K (dC, dI) vwCl [(y0, .byte)] s := hK
  clear hKc hPc hDc hFc hP1 hD1 hK1 hk1 hz1
  refine lv_if_ne (tgt := 29) hx hb dX12_readNumber_16 (by decide) (fun c16 => ?_) (fun c16 => ?_)
  · skip
    have j17 : iv r11 1 1 := iv_neLo ir11 (by decide : iv 0 0 0) c16 (by decide)
    refine lv_aload_n hx hb dX12_readNumber_29 rfl (lv_at hl 1 rfl) ?_
    obtain ⟨hPc, hDc, hFc⟩ := nv_sub3 (wc := [(h0, .inr (12, .int x0 :: .ref h1 :: .ref h2 :: .int x1 :: .int x2 :: .int x3 :: .int x4 :: .int x5 :: .int x6 :: .int x7 :: .int x8 :: .int x9 :: [.int x10, .int x11, .int x12, .int x13, .int x14, .int x15, .ref h3, .ref h4, .ref h5, .ref h6, .int x16, .int x17, .int x18, .int x19, .int x20, .int x21, .int x22, .int x23, .ref h7, .int x24, .int x25, .int u3_0, .int x27, .ref h8, .ref h9, .int x28, .int x29, .long z0, .int x30, .int x31, .ref h10, .ref h11, .ref h12, .ref h13, .ref h14, .int x32, .int x33, .int x34, .int x35, .int x36, .int x37, .int x38, .int x39, .int x40, .ref h15, .ref h16, .int x41, .int x42, .int x43, .int x44, .int x45, .int x46, .int x47, .int x48, .ref h17, .int x49, .int x50, .int x51, .int x52, .int x53])), (h7, .inl (y0, 2600, .inl f0))]) hP hD hS hA [0, 1] (by decide) rfl
    have hKc := hK.sub (tys' := [(y0, .byte)]) [0] rfl
    have oh18 : u3_0.toInt ≤ x27.toInt := by omega
    refine va_calli (va_runV (As := []) (rest := []) ⟨hx, hb, hml, hown, hG⟩ (cX12_peek__1 l dC dI h0 h1 h2 h3 h4 h5 h6 h7 h8 h9 h10 h11 h12 h13 h14 h15 h16 h17 y0 H.size x0 x1 x2 x3 x4 x5 x6 x7 x8 x9 x10 x11 x12 x13 x14 x15 x16 x17 x18 x19 x20 x21 x22 x23 x24 x25 u3_0 x27 x28 x29 x30 x31 x32 x33 x34 x35 x36 x37 x38 x39 x40 x41 x42 x43 x44 x45 x46 x47 x48 x49 x50 x51 x52 x53 z0 f0 ix15 ix16 ix21 ix22 ix23 ix24 ix25 iu3_0 ix27 ix31 ix32 ix33 ix34 ix35 ix36 ix41 ix42 ix46 ix47 ix49 ix53 if0 oh18) (cwV 0 hG (gV wd_1720 wd_1722 wp_99 wd_17 wd_1723) rfl rfl rfl (by decide +kernel) ⟨Nat.le_of_ble_eq_true rfl, Nat.le_of_ble_eq_true rfl⟩) ⟨fun a U g mk q => by obtain ⟨q0, q1, qP, qK, qD⟩ := q; exact ⟨q0, q1, qP, va_K.moved (u := U) (U := U.calling g mk a) (Vm.Alike.refl U.vm) qK, qD⟩, va_recv hKc hPc (ci := 12) (q0 := 0) rfl rfl, fun U hU hW => ⟨rfl, by rw [hU], by rw [hU]; exact hPc, va_K.moved hW.alike hKc, hDc.weaken (fun _ _ _ _ => trivial)⟩⟩ rfl rfl hl.1 rfl (lv_room (Nat.le_of_ble_eq_true rfl)) dX12_readNumber_30 ⟨by decide, by decide⟩) hS (fun q _ h => hFc q h) hFc (fun r19 u20 t H1 locs ht hvm hw hB hz1 hk1 hS => ?_)
    have hw : iv r19 (-1) 255 ∧ (256 * (u3_0.toInt + 1 - x27.toInt) ≤ 255 - r19.toInt) ∧ (r19.toInt = (pkf u3_0 x27 f0).toInt) ∧ True := hw
    obtain ⟨ir19, op21, op22, -⟩ := hw
    obtain ⟨hP1, hK1, hD1⟩ := hB
    rw [ht] at hP1
    have hK1 := va_K.moved hvm.symm hK1
    obtain ⟨hP, hD⟩ := nv_join (wf := [(h0, .inr (12, .int x0 :: .ref h1 :: .ref h2 :: .int x1 :: .int x2 :: .int x3 :: .int x4 :: .int x5 :: .int x6 :: .int x7 :: .int x8 :: .int x9 :: [.int x10, .int x11, .int x12, .int x13, .int x14, .int x15, .ref h3, .ref h4, .ref h5, .ref h6, .int x16, .int x17, .int x18, .int x19, .int x20, .int x21, .int x22, .int x23, .ref h7, .int x24, .int x25, .int u3_0, .int x27, .ref h8, .ref h9, .int x28, .int x29, .long z0, .int x30, .int x31, .ref h10, .ref h11, .ref h12, .ref h13, .ref h14, .int x32, .int x33, .int x34, .int x35, .int x36, .int x37, .int x38, .int x39, .int x40, .ref h15, .ref h16, .int x41, .int x42, .int x43, .int x44, .int x45, .int x46, .int x47, .int x48, .ref h17, .int x49, .int x50, .int x51, .int x52, .int x53])), (h7, .inl (y0, 2600, .inl f0))]) hP hD [0, 1] [] rfl rfl (by decide) (by decide) hk1 hFc hP1 hD1 rfl
    have hK := (hK.sub (tys' := []) [] rfl).app hK1
    generalize H1 = H at hP hS ⊢
    have hK : va_K (dC, dI) vwCl [(y0, .byte)] s := hK
    clear hKc hPc hDc hFc hP1 hD1 hK1 hk1 hz1
    refine lv_bipush (v := 48) hx hb dX12_readNumber_33 (by decide) ?_
    refine jcut (a := ∀ (b36 : Int32) (ib36 : iv b36 0 1) (o37 : u3_0.toInt + 2 * b36.toInt ≤ x27.toInt) (H : Heap) (locs : List Loc) (hK : va_K (dC, dI) vwCl [(y0, .byte)] s) (hP : va_P (dC, dI) vwCl [(h0, .inr (12, .int x0 :: .ref h1 :: .ref h2 :: .int x1 :: .int x2 :: .int x3 :: .int x4 :: .int x5 :: .int x6 :: .int x7 :: .int x8 :: .int x9 :: [.int x10, .int x11, .int x12, .int x13, .int x14, .int x15, .ref h3, .ref h4, .ref h5, .ref h6, .int x16, .int x17, .int x18, .int x19, .int x20, .int x21, .int x22, .int x23, .ref h7, .int x24, .int x25, .int u3_0, .int x27, .ref h8, .ref h9, .int x28, .int x29, .long z0, .int x30, .int x31, .ref h10, .ref h11, .ref h12, .ref h13, .ref h14, .int x32, .int x33, .int x34, .int x35, .int x36, .int x37, .int x38, .int x39, .int x40, .ref h15, .ref h16, .int x41, .int x42, .int x43, .int x44, .int x45, .int x46, .int x47, .int x48, .ref h17, .int x49, .int x50, .int x51, .int x52, .int x53])), (h7, .inl (y0, 2600, .inl f0))] H) (hD : va_D A [(h0, .inr (12, .int x0 :: .ref h1 :: .ref h2 :: .int x1 :: .int x2 :: .int x3 :: .int x4 :: .int x5 :: .int x6 :: .int x7 :: .int x8 :: .int x9 :: [.int x10, .int x11, .int x12, .int x13, .int x14, .int x15, .ref h3, .ref h4, .ref h5, .ref h6, .int x16, .int x17, .int x18, .int x19, .int x20, .int x21, .int x22, .int x23, .ref h7, .int x24, .int x25, .int u3_0, .int x27, .ref h8, .ref h9, .int x28, .int x29, .long z0, .int x30, .int x31, .ref h10, .ref h11, .ref h12, .ref h13, .ref h14, .int x32, .int x33, .int x34, .int x35, .int x36, .int x37, .int x38, .int x39, .int x40, .ref h15, .ref h16, .int x41, .int x42, .int x43, .int x44, .int x45, .int x46, .int x47, .int x48, .ref h17, .int x49, .int x50, .int x51, .int x52, .int x53])), (h7, .inl (y0, 2600, .inl f0))]) (hS : va_S A s.heap H locs) (ls : Array Slot) (hl : lv_has ls 7 [(1, .int u3_0), (0, .ref h0)]), W p l e (headSpec (Cond.code yX12_readNumber cX12_readNumber 7 (some .boolean) :: lw_G) ({ frames := 2, cells := 0, slots := 0, locals := 40 })).room s m ar below meth c H locs 0 0 Q (F0 m 72 ls [.int b36])) ?_ (fun j38 => ?_)
    · skip
      intro b36 ib36 o37 H locs hK hP hD hS ls hl
      refine lv_istore_n (lv' := [(2, .int b36), (1, .int u3_0), (0, .ref h0)]) hx hb dX12_readNumber_72 rfl hl (by decide) rfl (fun ls hl => ?_)
      refine lv_iload_n hx hb dX12_readNumber_73 rfl (lv_at hl 0 rfl) ?_
      refine jcut (a := ∀ (b44 : Int32) (ib44 : iv b44 0 2500) (o45 : x26.toInt ≤ b44.toInt) (o46 : b44.toInt ≤ x27.toInt) (H : Heap) (locs : List Loc) (hK : va_K (dC, dI) vwCl [(y0, .byte)] s) (hP : va_P (dC, dI) vwCl [(h0, .inr (12, .int x0 :: .ref h1 :: .ref h2 :: .int x1 :: .int x2 :: .int x3 :: .int x4 :: .int x5 :: .int x6 :: .int x7 :: .int x8 :: .int x9 :: [.int x10, .int x11, .int x12, .int x13, .int x14, .int x15, .ref h3, .ref h4, .ref h5, .ref h6, .int x16, .int x17, .int x18, .int x19, .int x20, .int x21, .int x22, .int x23, .ref h7, .int x24, .int x25, .int b44, .int x27, .ref h8, .ref h9, .int x28, .int x29, .long z0, .int x30, .int x31, .ref h10, .ref h11, .ref h12, .ref h13, .ref h14, .int x32, .int x33, .int x34, .int x35, .int x36, .int x37, .int x38, .int x39, .int x40, .ref h15, .ref h16, .int x41, .int x42, .int x43, .int x44, .int x45, .int x46, .int x47, .int x48, .ref h17, .int x49, .int x50, .int x51, .int x52, .int x53])), (h7, .inl (y0, 2600, .inl f0))] H) (hD : va_D A [(h0, .inr (12, .int x0 :: .ref h1 :: .ref h2 :: .int x1 :: .int x2 :: .int x3 :: .int x4 :: .int x5 :: .int x6 :: .int x7 :: .int x8 :: .int x9 :: [.int x10, .int x11, .int x12, .int x13, .int x14, .int x15, .ref h3, .ref h4, .ref h5, .ref h6, .int x16, .int x17, .int x18, .int x19, .int x20, .int x21, .int x22, .int x23, .ref h7, .int x24, .int x25, .int b44, .int x27, .ref h8, .ref h9, .int x28, .int x29, .long z0, .int x30, .int x31, .ref h10, .ref h11, .ref h12, .ref h13, .ref h14, .int x32, .int x33, .int x34, .int x35, .int x36, .int x37, .int x38, .int x39, .int x40, .ref h15, .ref h16, .int x41, .int x42, .int x43, .int x44, .int x45, .int x46, .int x47, .int x48, .ref h17, .int x49, .int x50, .int x51, .int x52, .int x53])), (h7, .inl (y0, 2600, .inl f0))]) (hS : va_S A s.heap H locs) (ls : Array Slot) (hl : lv_has ls 7 [(2, .int b36), (1, .int u3_0), (0, .ref h0)]), W p l e (headSpec (Cond.code yX12_readNumber cX12_readNumber 7 (some .boolean) :: lw_G) ({ frames := 2, cells := 0, slots := 0, locals := 40 })).room s m ar below meth c H locs 0 0 Q (F0 m 87 ls [])) ?_ (fun j47 => ?_)
      · skip
        intro b44 ib44 o45 o46 H locs hK hP hD hS ls hl
        refine lv_iconst (v := 0) hx hb dX12_readNumber_87 (by decide) ?_
        refine lv_istore_n (lv' := [(3, .int 0), (2, .int b36), (1, .int u3_0), (0, .ref h0)]) hx hb dX12_readNumber_88 rfl hl (by decide) rfl (fun ls hl => ?_)
        refine lv_aload_n hx hb dX12_readNumber_89 rfl (lv_at hl 3 rfl) ?_
        refine lv_iconst (v := 0) hx hb dX12_readNumber_90 (by decide) ?_
        refine va_put (D := (dC, dI)) (ci := 12) (v := .int 0) (ty := .int) (C := RX12) (T := TX12) (N := 72) hx hb hG inGX12 tyX12 tyX12_ok nmX12 hown hK hP hD hS 0 rfl rfl 41 (by decide) (hG _ wd_1348) (fun _ h9 => h9) rfl (by decide +kernel) rfl rfl (Nat.le_of_ble_eq_true rfl) dX12_readNumber_91 (fun H locs hP hD hS => ?_)
        obtain ⟨hP, hD⟩ := nv_eq (ws' := [(h0, .inr (12, .int x0 :: .ref h1 :: .ref h2 :: .int x1 :: .int x2 :: .int x3 :: .int x4 :: .int x5 :: .int x6 :: .int x7 :: .int x8 :: .int x9 :: [.int x10, .int x11, .int x12, .int x13, .int x14, .int x15, .ref h3, .ref h4, .ref h5, .ref h6, .int x16, .int x17, .int x18, .int x19, .int x20, .int x21, .int x22, .int x23, .ref h7, .int x24, .int x25, .int b44, .int x27, .ref h8, .ref h9, .int x28, .int x29, .long z0, .int x30, .int 0, .ref h10, .ref h11, .ref h12, .ref h13, .ref h14, .int x32, .int x33, .int x34, .int x35, .int x36, .int x37, .int x38, .int x39, .int x40, .ref h15, .ref h16, .int x41, .int x42, .int x43, .int x44, .int x45, .int x46, .int x47, .int x48, .ref h17, .int x49, .int x50, .int x51, .int x52, .int x53])), (h7, .inl (y0, 2600, .inl f0))]) hP hD rfl
        refine lv_iconst (v := 1) hx hb dX12_readNumber_94 (by decide) ?_
        refine lv_istore (lv' := [(4, .int 1), (3, .int 0), (2, .int b36), (1, .int u3_0), (0, .ref h0)]) hx hb dX12_readNumber_95 hl (by decide) rfl (fun ls hl => ?_)
        refine jcut (a := ∀ (n : Nat) (b166 : Int32) (b167 : Int32) (b168 : Int32) (b169 : Int32) (ib166 : iv b166 0 1) (ib167 : iv b167 0 2500) (ib168 : iv b168 0 2500) (ib169 : iv b169 0 1048575) (o170 : x26.toInt ≤ b168.toInt) (o171 : b168.toInt ≤ x27.toInt) (o172 : b167.toInt + x26.toInt ≤ b168.toInt) (o173 : NB b167.toInt b169.toInt) (hm : (2501 - b167.toInt).toNat < n) (H : Heap) (locs : List Loc) (hK : va_K (dC, dI) vwCl [(y0, .byte)] s) (hP : va_P (dC, dI) vwCl [(h0, .inr (12, .int x0 :: .ref h1 :: .ref h2 :: .int x1 :: .int x2 :: .int x3 :: .int x4 :: .int x5 :: .int x6 :: .int x7 :: .int x8 :: .int x9 :: [.int x10, .int x11, .int x12, .int x13, .int x14, .int x15, .ref h3, .ref h4, .ref h5, .ref h6, .int x16, .int x17, .int x18, .int x19, .int x20, .int x21, .int x22, .int x23, .ref h7, .int x24, .int x25, .int b168, .int x27, .ref h8, .ref h9, .int x28, .int x29, .long z0, .int x30, .int b169, .ref h10, .ref h11, .ref h12, .ref h13, .ref h14, .int x32, .int x33, .int x34, .int x35, .int x36, .int x37, .int x38, .int x39, .int x40, .ref h15, .ref h16, .int x41, .int x42, .int x43, .int x44, .int x45, .int x46, .int x47, .int x48, .ref h17, .int x49, .int x50, .int x51, .int x52, .int x53])), (h7, .inl (y0, 2600, .inl f0))] H) (hD : va_D A [(h0, .inr (12, .int x0 :: .ref h1 :: .ref h2 :: .int x1 :: .int x2 :: .int x3 :: .int x4 :: .int x5 :: .int x6 :: .int x7 :: .int x8 :: .int x9 :: [.int x10, .int x11, .int x12, .int x13, .int x14, .int x15, .ref h3, .ref h4, .ref h5, .ref h6, .int x16, .int x17, .int x18, .int x19, .int x20, .int x21, .int x22, .int x23, .ref h7, .int x24, .int x25, .int b168, .int x27, .ref h8, .ref h9, .int x28, .int x29, .long z0, .int x30, .int b169, .ref h10, .ref h11, .ref h12, .ref h13, .ref h14, .int x32, .int x33, .int x34, .int x35, .int x36, .int x37, .int x38, .int x39, .int x40, .ref h15, .ref h16, .int x41, .int x42, .int x43, .int x44, .int x45, .int x46, .int x47, .int x48, .ref h17, .int x49, .int x50, .int x51, .int x52, .int x53])), (h7, .inl (y0, 2600, .inl f0))]) (hS : va_S A s.heap H locs) (ls : Array Slot) (hl : lv_has ls 7 [(4, .int b166), (3, .int b167), (2, .int b36), (1, .int u3_0), (0, .ref h0)]), W p l e (headSpec (Cond.code yX12_readNumber cX12_readNumber 7 (some .boolean) :: lw_G) ({ frames := 2, cells := 0, slots := 0, locals := 40 })).room s m ar below meth c H locs 0 0 Q (F0 m 97 ls [])) ?_ (fun lp347 => ?_)
        · skip
          intro n
          induction n with
          | zero => intro b166 b167 b168 b169 ib166 ib167 ib168 ib169 o170 o171 o172 o173 hm H locs hK hP hD hS ls hl; exact absurd hm (Nat.not_lt_zero _)
          | succ n ih =>
            intro b166 b167 b168 b169 ib166 ib167 ib168 ib169 o170 o171 o172 o173 hm H locs hK hP hD hS ls hl
            refine lv_aload_n hx hb dX12_readNumber_97 rfl (lv_at hl 4 rfl) ?_
            obtain ⟨hPc, hDc, hFc⟩ := nv_sub3 (wc := [(h0, .inr (12, .int x0 :: .ref h1 :: .ref h2 :: .int x1 :: .int x2 :: .int x3 :: .int x4 :: .int x5 :: .int x6 :: .int x7 :: .int x8 :: .int x9 :: [.int x10, .int x11, .int x12, .int x13, .int x14, .int x15, .ref h3, .ref h4, .ref h5, .ref h6, .int x16, .int x17, .int x18, .int x19, .int x20, .int x21, .int x22, .int x23, .ref h7, .int x24, .int x25, .int b168, .int x27, .ref h8, .ref h9, .int x28, .int x29, .long z0, .int x30, .int b169, .ref h10, .ref h11, .ref h12, .ref h13, .ref h14, .int x32, .int x33, .int x34, .int x35, .int x36, .int x37, .int x38, .int x39, .int x40, .ref h15, .ref h16, .int x41, .int x42, .int x43, .int x44, .int x45, .int x46, .int x47, .int x48, .ref h17, .int x49, .int x50, .int x51, .int x52, .int x53])), (h7, .inl (y0, 2600, .inl f0))]) hP hD hS hA [0, 1] (by decide) rfl
            have hKc := hK.sub (tys' := [(y0, .byte)]) [0] rfl
            have oh348 : b168.toInt ≤ x27.toInt := by omega
            refine va_calli (va_runV (As := []) (rest := []) ⟨hx, hb, hml, hown, hG⟩ (cX12_peek__1 l dC dI h0 h1 h2 h3 h4 h5 h6 h7 h8 h9 h10 h11 h12 h13 h14 h15 h16 h17 y0 H.size x0 x1 x2 x3 x4 x5 x6 x7 x8 x9 x10 x11 x12 x13 x14 x15 x16 x17 x18 x19 x20 x21 x22 x23 x24 x25 b168 x27 x28 x29 x30 b169 x32 x33 x34 x35 x36 x37 x38 x39 x40 x41 x42 x43 x44 x45 x46 x47 x48 x49 x50 x51 x52 x53 z0 f0 ix15 ix16 ix21 ix22 ix23 ix24 ix25 ib168 ix27 ib169 ix32 ix33 ix34 ix35 ix36 ix41 ix42 ix46 ix47 ix49 ix53 if0 oh348) (cwV 0 hG (gV wd_1720 wd_1722 wp_99 wd_17 wd_1723) rfl rfl rfl (by decide +kernel) ⟨Nat.le_of_ble_eq_true rfl, Nat.le_of_ble_eq_true rfl⟩) ⟨fun a U g mk q => by obtain ⟨q0, q1, qP, qK, qD⟩ := q; exact ⟨q0, q1, qP, va_K.moved (u := U) (U := U.calling g mk a) (Vm.Alike.refl U.vm) qK, qD⟩, va_recv hKc hPc (ci := 12) (q0 := 0) rfl rfl, fun U hU hW => ⟨rfl, by rw [hU], by rw [hU]; exact hPc, va_K.moved hW.alike hKc, hDc.weaken (fun _ _ _ _ => trivial)⟩⟩ rfl rfl hl.1 rfl (lv_room (Nat.le_of_ble_eq_true rfl)) dX12_readNumber_98 ⟨by decide, by decide⟩) hS (fun q _ h => hFc q h) hFc (fun r349 u350 t H1 locs ht hvm hw hB hz1 hk1 hS => ?_)
            have hw : iv r349 (-1) 255 ∧ (256 * (b168.toInt + 1 - x27.toInt) ≤ 255 - r349.toInt) ∧ (r349.toInt = (pkf b168 x27 f0).toInt) ∧ True := hw
            obtain ⟨ir349, op351, op352, -⟩ := hw
            obtain ⟨hP1, hK1, hD1⟩ := hB
            rw [ht] at hP1
            have hK1 := va_K.moved hvm.symm hK1
            obtain ⟨hP, hD⟩ := nv_join (wf := [(h0, .inr (12, .int x0 :: .ref h1 :: .ref h2 :: .int x1 :: .int x2 :: .int x3 :: .int x4 :: .int x5 :: .int x6 :: .int x7 :: .int x8 :: .int x9 :: [.int x10, .int x11, .int x12, .int x13, .int x14, .int x15, .ref h3, .ref h4, .ref h5, .ref h6, .int x16, .int x17, .int x18, .int x19, .int x20, .int x21, .int x22, .int x23, .ref h7, .int x24, .int x25, .int b168, .int x27, .ref h8, .ref h9, .int x28, .int x29, .long z0, .int x30, .int b169, .ref h10, .ref h11, .ref h12, .ref h13, .ref h14, .int x32, .int x33, .int x34, .int x35, .int x36, .int x37, .int x38, .int x39, .int x40, .ref h15, .ref h16, .int x41, .int x42, .int x43, .int x44, .int x45, .int x46, .int x47, .int x48, .ref h17, .int x49, .int x50, .int x51, .int x52, .int x53])), (h7, .inl (y0, 2600, .inl f0))]) hP hD [0, 1] [] rfl rfl (by decide) (by decide) hk1 hFc hP1 hD1 rfl
            have hK := (hK.sub (tys' := []) [] rfl).app hK1
            generalize H1 = H at hP hS ⊢
            have hK : va_K (dC, dI) vwCl [(y0, .byte)] s := hK
            clear hKc hPc hDc hFc hP1 hD1 hK1 hk1 hz1
            obtain ⟨hPc, hDc, hFc⟩ := nv_sub3 (wc := []) hP hD hS hA [] (by decide) rfl
            have hKc := hK.sub (tys' := []) [] rfl
            refine va_calli (va_runS (As := [.int r349]) (rest := []) ⟨hx, hb, hml, hown, hG⟩ (cX12_isSmall_1 l dC dI H.size r349) (va_cwS 1 hG (gS wd_1728 wd_1729 wd_17 wd_1730) rfl rfl rfl (by decide +kernel) ⟨Nat.le_of_ble_eq_true rfl, Nat.le_of_ble_eq_true rfl⟩) ⟨fun a U g mk q => by obtain ⟨q0, q1, qP, qK, qD⟩ := q; exact ⟨q0, q1, qP, va_K.moved (u := U) (U := U.calling g mk a) (Vm.Alike.refl U.vm) qK, qD⟩, fun U hU hW => ⟨rfl, by rw [hU], by rw [hU]; exact hPc, va_K.moved hW.alike hKc, hDc.weaken (fun _ _ _ _ => trivial)⟩⟩ rfl rfl hl.1 rfl (lv_room (Nat.le_of_ble_eq_true rfl)) dX12_readNumber_101 ⟨by decide, by decide⟩) hS (fun q _ h => hFc q h) hFc (fun r353 u354 t H1 locs ht hvm hw hB hz1 hk1 hS => ?_)
            have hw : iv r353 0 1 ∧ (97 * r353.toInt ≤ r349.toInt + 2147483648 * (1 - r353.toInt)) ∧ (r349.toInt ≤ 122 * r353.toInt + 2147483647 * (1 - r353.toInt)) ∧ (r353.toInt = 1 ∨ r349.toInt < 97 ∨ 122 < r349.toInt) ∧ True := hw
            obtain ⟨ir353, op355, op356, op357, -⟩ := hw
            obtain ⟨hP1, hK1, hD1⟩ := hB
            rw [ht] at hP1
            have hK1 := va_K.moved hvm.symm hK1
            obtain ⟨hP, hD⟩ := nv_join (wf := [(h0, .inr (12, .int x0 :: .ref h1 :: .ref h2 :: .int x1 :: .int x2 :: .int x3 :: .int x4 :: .int x5 :: .int x6 :: .int x7 :: .int x8 :: .int x9 :: [.int x10, .int x11, .int x12, .int x13, .int x14, .int x15, .ref h3, .ref h4, .ref h5, .ref h6, .int x16, .int x17, .int x18, .int x19, .int x20, .int x21, .int x22, .int x23, .ref h7, .int x24, .int x25, .int b168, .int x27, .ref h8, .ref h9, .int x28, .int x29, .long z0, .int x30, .int b169, .ref h10, .ref h11, .ref h12, .ref h13, .ref h14, .int x32, .int x33, .int x34, .int x35, .int x36, .int x37, .int x38, .int x39, .int x40, .ref h15, .ref h16, .int x41, .int x42, .int x43, .int x44, .int x45, .int x46, .int x47, .int x48, .ref h17, .int x49, .int x50, .int x51, .int x52, .int x53])), (h7, .inl (y0, 2600, .inl f0))]) hP hD [] [0, 1] rfl rfl (by decide) (by decide) hk1 hFc hP1 hD1 rfl
            have hK := (hK.sub (tys' := [(y0, .byte)]) [0] rfl).app hK1
            generalize H1 = H at hP hS ⊢
            have hK : va_K (dC, dI) vwCl [(y0, .byte)] s := hK
            clear hKc hPc hDc hFc hP1 hD1 hK1 hk1 hz1
            refine lv_if_ne (tgt := 117) hx hb dX12_readNumber_104 (by decide) (fun c358 => ?_) (fun c358 => ?_)
            · skip
              have j418 : iv r353 1 1 := iv_neLo ir353 (by decide : iv 0 0 0) c358 (by decide)
              refine lv_aload_n hx hb dX12_readNumber_117 rfl (lv_at hl 4 rfl) ?_
              obtain ⟨hPc, hDc, hFc⟩ := nv_sub3 (wc := [(h0, .inr (12, .int x0 :: .ref h1 :: .ref h2 :: .int x1 :: .int x2 :: .int x3 :: .int x4 :: .int x5 :: .int x6 :: .int x7 :: .int x8 :: .int x9 :: [.int x10, .int x11, .int x12, .int x13, .int x14, .int x15, .ref h3, .ref h4, .ref h5, .ref h6, .int x16, .int x17, .int x18, .int x19, .int x20, .int x21, .int x22, .int x23, .ref h7, .int x24, .int x25, .int b168, .int x27, .ref h8, .ref h9, .int x28, .int x29, .long z0, .int x30, .int b169, .ref h10, .ref h11, .ref h12, .ref h13, .ref h14, .int x32, .int x33, .int x34, .int x35, .int x36, .int x37, .int x38, .int x39, .int x40, .ref h15, .ref h16, .int x41, .int x42, .int x43, .int x44, .int x45, .int x46, .int x47, .int x48, .ref h17, .int x49, .int x50, .int x51, .int x52, .int x53])), (h7, .inl (y0, 2600, .inl f0))]) hP hD hS hA [0, 1] (by decide) rfl
              have hKc := hK.sub (tys' := [(y0, .byte)]) [0] rfl
              have oh419 : b168.toInt ≤ x27.toInt := by omega
              refine va_calli (va_runV (As := []) (rest := []) ⟨hx, hb, hml, hown, hG⟩ (cX12_peek__1 l dC dI h0 h1 h2 h3 h4 h5 h6 h7 h8 h9 h10 h11 h12 h13 h14 h15 h16 h17 y0 H.size x0 x1 x2 x3 x4 x5 x6 x7 x8 x9 x10 x11 x12 x13 x14 x15 x16 x17 x18 x19 x20 x21 x22 x23 x24 x25 b168 x27 x28 x29 x30 b169 x32 x33 x34 x35 x36 x37 x38 x39 x40 x41 x42 x43 x44 x45 x46 x47 x48 x49 x50 x51 x52 x53 z0 f0 ix15 ix16 ix21 ix22 ix23 ix24 ix25 ib168 ix27 ib169 ix32 ix33 ix34 ix35 ix36 ix41 ix42 ix46 ix47 ix49 ix53 if0 oh419) (cwV 0 hG (gV wd_1720 wd_1722 wp_99 wd_17 wd_1723) rfl rfl rfl (by decide +kernel) ⟨Nat.le_of_ble_eq_true rfl, Nat.le_of_ble_eq_true rfl⟩) ⟨fun a U g mk q => by obtain ⟨q0, q1, qP, qK, qD⟩ := q; exact ⟨q0, q1, qP, va_K.moved (u := U) (U := U.calling g mk a) (Vm.Alike.refl U.vm) qK, qD⟩, va_recv hKc hPc (ci := 12) (q0 := 0) rfl rfl, fun U hU hW => ⟨rfl, by rw [hU], by rw [hU]; exact hPc, va_K.moved hW.alike hKc, hDc.weaken (fun _ _ _ _ => trivial)⟩⟩ rfl rfl hl.1 rfl (lv_room (Nat.le_of_ble_eq_true rfl)) dX12_readNumber_118 ⟨by decide, by decide⟩) hS (fun q _ h => hFc q h) hFc (fun r420 u421 t H1 locs ht hvm hw hB hz1 hk1 hS => ?_)
              have hw : iv r420 (-1) 255 ∧ (256 * (b168.toInt + 1 - x27.toInt) ≤ 255 - r420.toInt) ∧ (r420.toInt = (pkf b168 x27 f0).toInt) ∧ True := hw
              obtain ⟨ir420, op422, op423, -⟩ := hw
              obtain ⟨hP1, hK1, hD1⟩ := hB
              rw [ht] at hP1
              have hK1 := va_K.moved hvm.symm hK1
              obtain ⟨hP, hD⟩ := nv_join (wf := [(h0, .inr (12, .int x0 :: .ref h1 :: .ref h2 :: .int x1 :: .int x2 :: .int x3 :: .int x4 :: .int x5 :: .int x6 :: .int x7 :: .int x8 :: .int x9 :: [.int x10, .int x11, .int x12, .int x13, .int x14, .int x15, .ref h3, .ref h4, .ref h5, .ref h6, .int x16, .int x17, .int x18, .int x19, .int x20, .int x21, .int x22, .int x23, .ref h7, .int x24, .int x25, .int b168, .int x27, .ref h8, .ref h9, .int x28, .int x29, .long z0, .int x30, .int b169, .ref h10, .ref h11, .ref h12, .ref h13, .ref h14, .int x32, .int x33, .int x34, .int x35, .int x36, .int x37, .int x38, .int x39, .int x40, .ref h15, .ref h16, .int x41, .int x42, .int x43, .int x44, .int x45, .int x46, .int x47, .int x48, .ref h17, .int x49, .int x50, .int x51, .int x52, .int x53])), (h7, .inl (y0, 2600, .inl f0))]) hP hD [0, 1] [] rfl rfl (by decide) (by decide) hk1 hFc hP1 hD1 rfl
              have hK := (hK.sub (tys' := []) [] rfl).app hK1
              generalize H1 = H at hP hS ⊢
              have hK : va_K (dC, dI) vwCl [(y0, .byte)] s := hK
              clear hKc hPc hDc hFc hP1 hD1 hK1 hk1 hz1
              refine lv_istore (lv' := [(5, .int r420), (4, .int b166), (3, .int b167), (2, .int b36), (1, .int u3_0), (0, .ref h0)]) hx hb dX12_readNumber_121 hl (by decide) rfl (fun ls hl => ?_)
              refine lv_iload hx hb dX12_readNumber_123 (lv_at hl 0 rfl) ?_
              obtain ⟨hPc, hDc, hFc⟩ := nv_sub3 (wc := []) hP hD hS hA [] (by decide) rfl
              have hKc := hK.sub (tys' := []) [] rfl
              refine va_calli (va_runS (As := [.int r420]) (rest := []) ⟨hx, hb, hml, hown, hG⟩ (cX12_isDigit_1 l dC dI H.size r420) (va_cwS 1 hG (gS wd_1735 wd_1736 wd_17 wd_1737) rfl rfl rfl (by decide +kernel) ⟨Nat.le_of_ble_eq_true rfl, Nat.le_of_ble_eq_true rfl⟩) ⟨fun a U g mk q => by obtain ⟨q0, q1, qP, qK, qD⟩ := q; exact ⟨q0, q1, qP, va_K.moved (u := U) (U := U.calling g mk a) (Vm.Alike.refl U.vm) qK, qD⟩, fun U hU hW => ⟨rfl, by rw [hU], by rw [hU]; exact hPc, va_K.moved hW.alike hKc, hDc.weaken (fun _ _ _ _ => trivial)⟩⟩ rfl rfl hl.1 rfl (lv_room (Nat.le_of_ble_eq_true rfl)) dX12_readNumber_125 ⟨by decide, by decide⟩) hS (fun q _ h => hFc q h) hFc (fun r424 u425 t H1 locs ht hvm hw hB hz1 hk1 hS => ?_)
              have hw : iv r424 0 1 ∧ (48 * r424.toInt ≤ r420.toInt + 2147483648 * (1 - r424.toInt)) ∧ (r420.toInt ≤ 57 * r424.toInt + 2147483647 * (1 - r424.toInt)) ∧ (r424.toInt = 1 ∨ r420.toInt < 48 ∨ 57 < r420.toInt) ∧ True := hw
              obtain ⟨ir424, op426, op427, op428, -⟩ := hw
              obtain ⟨hP1, hK1, hD1⟩ := hB
              rw [ht] at hP1
              have hK1 := va_K.moved hvm.symm hK1
              obtain ⟨hP, hD⟩ := nv_join (wf := [(h0, .inr (12, .int x0 :: .ref h1 :: .ref h2 :: .int x1 :: .int x2 :: .int x3 :: .int x4 :: .int x5 :: .int x6 :: .int x7 :: .int x8 :: .int x9 :: [.int x10, .int x11, .int x12, .int x13, .int x14, .int x15, .ref h3, .ref h4, .ref h5, .ref h6, .int x16, .int x17, .int x18, .int x19, .int x20, .int x21, .int x22, .int x23, .ref h7, .int x24, .int x25, .int b168, .int x27, .ref h8, .ref h9, .int x28, .int x29, .long z0, .int x30, .int b169, .ref h10, .ref h11, .ref h12, .ref h13, .ref h14, .int x32, .int x33, .int x34, .int x35, .int x36, .int x37, .int x38, .int x39, .int x40, .ref h15, .ref h16, .int x41, .int x42, .int x43, .int x44, .int x45, .int x46, .int x47, .int x48, .ref h17, .int x49, .int x50, .int x51, .int x52, .int x53])), (h7, .inl (y0, 2600, .inl f0))]) hP hD [] [0, 1] rfl rfl (by decide) (by decide) hk1 hFc hP1 hD1 rfl
              have hK := (hK.sub (tys' := [(y0, .byte)]) [0] rfl).app hK1
              generalize H1 = H at hP hS ⊢
              have hK : va_K (dC, dI) vwCl [(y0, .byte)] s := hK
              clear hKc hPc hDc hFc hP1 hD1 hK1 hk1 hz1
              refine jcut (a := ∀ (b437 : Int32) (ib437 : iv b437 0 207) (H : Heap) (locs : List Loc) (hK : va_K (dC, dI) vwCl [(y0, .byte)] s) (hP : va_P (dC, dI) vwCl [(h0, .inr (12, .int x0 :: .ref h1 :: .ref h2 :: .int x1 :: .int x2 :: .int x3 :: .int x4 :: .int x5 :: .int x6 :: .int x7 :: .int x8 :: .int x9 :: [.int x10, .int x11, .int x12, .int x13, .int x14, .int x15, .ref h3, .ref h4, .ref h5, .ref h6, .int x16, .int x17, .int x18, .int x19, .int x20, .int x21, .int x22, .int x23, .ref h7, .int x24, .int x25, .int b168, .int x27, .ref h8, .ref h9, .int x28, .int x29, .long z0, .int x30, .int b169, .ref h10, .ref h11, .ref h12, .ref h13, .ref h14, .int x32, .int x33, .int x34, .int x35, .int x36, .int x37, .int x38, .int x39, .int x40, .ref h15, .ref h16, .int x41, .int x42, .int x43, .int x44, .int x45, .int x46, .int x47, .int x48, .ref h17, .int x49, .int x50, .int x51, .int x52, .int x53])), (h7, .inl (y0, 2600, .inl f0))] H) (hD : va_D A [(h0, .inr (12, .int x0 :: .ref h1 :: .ref h2 :: .int x1 :: .int x2 :: .int x3 :: .int x4 :: .int x5 :: .int x6 :: .int x7 :: .int x8 :: .int x9 :: [.int x10, .int x11, .int x12, .int x13, .int x14, .int x15, .ref h3, .ref h4, .ref h5, .ref h6, .int x16, .int x17, .int x18, .int x19, .int x20, .int x21, .int x22, .int x23, .ref h7, .int x24, .int x25, .int b168, .int x27, .ref h8, .ref h9, .int x28, .int x29, .long z0, .int x30, .int b169, .ref h10, .ref h11, .ref h12, .ref h13, .ref h14, .int x32, .int x33, .int x34, .int x35, .int x36, .int x37, .int x38, .int x39, .int x40, .ref h15, .ref h16, .int x41, .int x42, .int x43, .int x44, .int x45, .int x46, .int x47, .int x48, .ref h17, .int x49, .int x50, .int x51, .int x52, .int x53])), (h7, .inl (y0, 2600, .inl f0))]) (hS : va_S A s.heap H locs) (ls : Array Slot) (hl : lv_has ls 7 [(4, .int b166), (3, .int b167), (2, .int b36), (1, .int u3_0), (0, .ref h0)]), W p l e (headSpec (Cond.code yX12_readNumber cX12_readNumber 7 (some .boolean) :: lw_G) ({ frames := 2, cells := 0, slots := 0, locals := 40 })).room s m ar below meth c H locs 0 0 Q (F0 m 156 ls [.int b437])) ?_ (fun j438 => ?_)
              · skip
                intro b437 ib437 H locs hK hP hD hS ls hl
                refine lv_istore (lv' := [(6, .int b437), (4, .int b166), (3, .int b167), (2, .int b36), (1, .int u3_0), (0, .ref h0)]) hx hb dX12_readNumber_156 hl (by decide) rfl (fun ls hl => ?_)
                refine lv_iload hx hb dX12_readNumber_158 (lv_at hl 1 rfl) ?_
                refine jcut (a := ∀ (b451 : Int32) (ib451 : iv b451 0 1) (o452 : b437.toInt + 192 * b451.toInt ≤ 207) (H : Heap) (locs : List Loc) (hK : va_K (dC, dI) vwCl [(y0, .byte)] s) (hP : va_P (dC, dI) vwCl [(h0, .inr (12, .int x0 :: .ref h1 :: .ref h2 :: .int x1 :: .int x2 :: .int x3 :: .int x4 :: .int x5 :: .int x6 :: .int x7 :: .int x8 :: .int x9 :: [.int x10, .int x11, .int x12, .int x13, .int x14, .int x15, .ref h3, .ref h4, .ref h5, .ref h6, .int x16, .int x17, .int x18, .int x19, .int x20, .int x21, .int x22, .int x23, .ref h7, .int x24, .int x25, .int b168, .int x27, .ref h8, .ref h9, .int x28, .int x29, .long z0, .int x30, .int b169, .ref h10, .ref h11, .ref h12, .ref h13, .ref h14, .int x32, .int x33, .int x34, .int x35, .int x36, .int x37, .int x38, .int x39, .int x40, .ref h15, .ref h16, .int x41, .int x42, .int x43, .int x44, .int x45, .int x46, .int x47, .int x48, .ref h17, .int x49, .int x50, .int x51, .int x52, .int x53])), (h7, .inl (y0, 2600, .inl f0))] H) (hD : va_D A [(h0, .inr (12, .int x0 :: .ref h1 :: .ref h2 :: .int x1 :: .int x2 :: .int x3 :: .int x4 :: .int x5 :: .int x6 :: .int x7 :: .int x8 :: .int x9 :: [.int x10, .int x11, .int x12, .int x13, .int x14, .int x15, .ref h3, .ref h4, .ref h5, .ref h6, .int x16, .int x17, .int x18, .int x19, .int x20, .int x21, .int x22, .int x23, .ref h7, .int x24, .int x25, .int b168, .int x27, .ref h8, .ref h9, .int x28, .int x29, .long z0, .int x30, .int b169, .ref h10, .ref h11, .ref h12, .ref h13, .ref h14, .int x32, .int x33, .int x34, .int x35, .int x36, .int x37, .int x38, .int x39, .int x40, .ref h15, .ref h16, .int x41, .int x42, .int x43, .int x44, .int x45, .int x46, .int x47, .int x48, .ref h17, .int x49, .int x50, .int x51, .int x52, .int x53])), (h7, .inl (y0, 2600, .inl f0))]) (hS : va_S A s.heap H locs) (ls : Array Slot) (hl : lv_has ls 7 [(6, .int b437), (3, .int b167), (2, .int b36), (1, .int u3_0), (0, .ref h0)]), W p l e (headSpec (Cond.code yX12_readNumber cX12_readNumber 7 (some .boolean) :: lw_G) ({ frames := 2, cells := 0, slots := 0, locals := 40 })).room s m ar below meth c H locs 0 0 Q (F0 m 184 ls [.int b451])) ?_ (fun j453 => ?_)
                · skip
                  intro b451 ib451 o452 H locs hK hP hD hS ls hl
                  refine lv_istore (lv' := [(4, .int b451), (6, .int b437), (3, .int b167), (2, .int b36), (1, .int u3_0), (0, .ref h0)]) hx hb dX12_readNumber_184 hl (by decide) rfl (fun ls hl => ?_)
                  refine lv_iload_n hx hb dX12_readNumber_186 rfl (lv_at hl 2 rfl) ?_
                  refine lv_iconst (v := 5) hx hb dX12_readNumber_187 (by decide) ?_
                  refine jcut (a := ∀ (b473 : Int32) (ib473 : iv b473 0 1048575) (o474 : NB (b167.toInt + 1) b473.toInt) (H : Heap) (locs : List Loc) (hK : va_K (dC, dI) vwCl [(y0, .byte)] s) (hP : va_P (dC, dI) vwCl [(h0, .inr (12, .int x0 :: .ref h1 :: .ref h2 :: .int x1 :: .int x2 :: .int x3 :: .int x4 :: .int x5 :: .int x6 :: .int x7 :: .int x8 :: .int x9 :: [.int x10, .int x11, .int x12, .int x13, .int x14, .int x15, .ref h3, .ref h4, .ref h5, .ref h6, .int x16, .int x17, .int x18, .int x19, .int x20, .int x21, .int x22, .int x23, .ref h7, .int x24, .int x25, .int b168, .int x27, .ref h8, .ref h9, .int x28, .int x29, .long z0, .int x30, .int b473, .ref h10, .ref h11, .ref h12, .ref h13, .ref h14, .int x32, .int x33, .int x34, .int x35, .int x36, .int x37, .int x38, .int x39, .int x40, .ref h15, .ref h16, .int x41, .int x42, .int x43, .int x44, .int x45, .int x46, .int x47, .int x48, .ref h17, .int x49, .int x50, .int x51, .int x52, .int x53])), (h7, .inl (y0, 2600, .inl f0))] H) (hD : va_D A [(h0, .inr (12, .int x0 :: .ref h1 :: .ref h2 :: .int x1 :: .int x2 :: .int x3 :: .int x4 :: .int x5 :: .int x6 :: .int x7 :: .int x8 :: .int x9 :: [.int x10, .int x11, .int x12, .int x13, .int x14, .int x15, .ref h3, .ref h4, .ref h5, .ref h6, .int x16, .int x17, .int x18, .int x19, .int x20, .int x21, .int x22, .int x23, .ref h7, .int x24, .int x25, .int b168, .int x27, .ref h8, .ref h9, .int x28, .int x29, .long z0, .int x30, .int b473, .ref h10, .ref h11, .ref h12, .ref h13, .ref h14, .int x32, .int x33, .int x34, .int x35, .int x36, .int x37, .int x38, .int x39, .int x40, .ref h15, .ref h16, .int x41, .int x42, .int x43, .int x44, .int x45, .int x46, .int x47, .int x48, .ref h17, .int x49, .int x50, .int x51, .int x52, .int x53])), (h7, .inl (y0, 2600, .inl f0))]) (hS : va_S A s.heap H locs) (ls : Array Slot) (hl : lv_has ls 7 [(4, .int b451), (3, .int b167), (2, .int b36), (1, .int u3_0), (0, .ref h0)]), W p l e (headSpec (Cond.code yX12_readNumber cX12_readNumber 7 (some .boolean) :: lw_G) ({ frames := 2, cells := 0, slots := 0, locals := 40 })).room s m ar below meth c H locs 0 0 Q (F0 m 223 ls [])) ?_ (fun j475 => ?_)
                  · skip
                    intro b473 ib473 o474 H locs hK hP hD hS ls hl
                    obtain ⟨v476, ev476⟩ : ∃ y : Int32, y = b167 + Int32.ofInt 1 := ⟨_, rfl⟩
                    have iv476 : iv v476 1 2501 := iv_eq ev476 (iv_add ib167 (by decide : iv (Int32.ofInt 1) 1 1) (by decide) (by decide))
                    have tv476 : v476.toInt = b167.toInt + 1 := iv_addT ev476 ib167 (by decide) (by decide) (by decide)
                    refine lv_iinc (v := v476) (lv' := [(3, .int v476), (4, .int b451), (2, .int b36), (1, .int u3_0), (0, .ref h0)]) hx hb dX12_readNumber_223 hl (k := 1) rfl ev476.symm (by decide) rfl (fun ls hl => ?_)
                    refine lv_aload_n hx hb dX12_readNumber_226 rfl (lv_at hl 4 rfl) ?_
                    refine lv_dup hx hb dX12_readNumber_227 rfl ?_
                    refine va_get (D := (dC, dI)) (ci := 12) (v := .int b168) (C := RX12) (T := TX12) (N := 72) hx hb hG inGX12 hown hK hP 0 rfl rfl 33 (by decide) (hG _ wd_1340) (fun _ h9 => h9) rfl dX12_readNumber_228 ?_
                    refine lv_iconst (v := 1) hx hb dX12_readNumber_231 (by decide) ?_
                    refine lv_iadd hx hb dX12_readNumber_232 ?_
                    refine lv_topi (fun v477 ev477 => ?_)
                    have iv477 : iv v477 1 2501 := iv_eq ev477 (iv_add ib168 (by decide : iv 1 1 1) (by decide) (by decide))
                    have tv477 : v477.toInt = b168.toInt + 1 := iv_addT ev477 ib168 (by decide) (by decide) (by decide)
                    have j478 : iv v477 1 2500 := ⟨by omega, by omega⟩
                    refine va_put (D := (dC, dI)) (ci := 12) (v := .int v477) (ty := .int) (C := RX12) (T := TX12) (N := 72) hx hb hG inGX12 tyX12 tyX12_ok nmX12 hown hK hP hD hS 0 rfl rfl 33 (by decide) (hG _ wd_1340) (fun _ h9 => h9) rfl (by decide +kernel) rfl rfl (Nat.le_of_ble_eq_true rfl) dX12_readNumber_233 (fun H locs hP hD hS => ?_)
                    obtain ⟨hP, hD⟩ := nv_eq (ws' := [(h0, .inr (12, .int x0 :: .ref h1 :: .ref h2 :: .int x1 :: .int x2 :: .int x3 :: .int x4 :: .int x5 :: .int x6 :: .int x7 :: .int x8 :: .int x9 :: [.int x10, .int x11, .int x12, .int x13, .int x14, .int x15, .ref h3, .ref h4, .ref h5, .ref h6, .int x16, .int x17, .int x18, .int x19, .int x20, .int x21, .int x22, .int x23, .ref h7, .int x24, .int x25, .int v477, .int x27, .ref h8, .ref h9, .int x28, .int x29, .long z0, .int x30, .int b473, .ref h10, .ref h11, .ref h12, .ref h13, .ref h14, .int x32, .int x33, .int x34, .int x35, .int x36, .int x37, .int x38, .int x39, .int x40, .ref h15, .ref h16, .int x41, .int x42, .int x43, .int x44, .int x45, .int x46, .int x47, .int x48, .ref h17, .int x49, .int x50, .int x51, .int x52, .int x53])), (h7, .inl (y0, 2600, .inl f0))]) hP hD rfl
                    refine lv_goto (tgt := 97) hx hb dX12_readNumber_236 (by decide) ?_
                    have j479 : iv v476 0 2500 := ⟨by omega, by omega⟩
                    have oh480 : x26.toInt ≤ v477.toInt := by omega
                    have oh481 : v477.toInt ≤ x27.toInt := by omega
                    have oh482 : v476.toInt + x26.toInt ≤ v477.toInt := by omega
                    have oh483 : NB v476.toInt b473.toInt := by first | (exact NB_0 (by omega) (by omega)) | (exact NB_ge (by omega)) | (exact NB_step o474 (by omega) (by omega) (by omega)) | (exact NB_step o173 (by omega) (by omega) (by omega)) | (exact NB_to o474 (by omega) (by omega)) | (exact NB_to o173 (by omega) (by omega))
                    exact ih b451 v476 v477 b473 ib451 j479 (iv_w j478 (by decide) (by decide)) ib473 oh480 oh481 oh482 oh483 (by omega) _ _ hK hP hD hS ls (lv_sub hl [1, 0, 2, 3, 4] rfl)
                  refine lv_icmp_ge (tgt := 223) hx hb dX12_readNumber_188 (by decide) (fun c454 => ?_) (fun c454 => ?_)
                  · skip
                    have j484 : iv b167 5 2500 := iv_leR (by decide : iv 5 5 5) ib167 c454 (by decide)
                    have oh485 : NB (b167.toInt + 1) b169.toInt := by first | (exact NB_0 (by omega) (by omega)) | (exact NB_ge (by omega)) | (exact NB_step o474 (by omega) (by omega) (by omega)) | (exact NB_step o173 (by omega) (by omega) (by omega)) | (exact NB_to o474 (by omega) (by omega)) | (exact NB_to o173 (by omega) (by omega))
                    exact j475 b169 ib169 oh485 _ _ hK hP hD hS ls (lv_sub hl [0, 2, 3, 4, 5] rfl)
                  · skip
                    have j486 : iv b167 0 4 := iv_nleR (by decide : iv 5 5 5) ib167 c454 (by decide)
                    have j487 : iv b169 0 65535 := ⟨by omega, (by first | (exact NB_le o474 (by omega)) | (exact NB_le o173 (by omega)))⟩
                    refine lv_aload_n hx hb dX12_readNumber_191 rfl (lv_at hl 5 rfl) ?_
                    refine lv_aload_n hx hb dX12_readNumber_192 rfl (lv_at hl 5 rfl) ?_
                    refine va_get (D := (dC, dI)) (ci := 12) (v := .int b169) (C := RX12) (T := TX12) (N := 72) hx hb hG inGX12 hown hK hP 0 rfl rfl 41 (by decide) (hG _ wd_1348) (fun _ h9 => h9) rfl dX12_readNumber_193 ?_
                    refine lv_iload_n hx hb dX12_readNumber_196 rfl (lv_at hl 3 rfl) ?_
                    refine lv_if_eq (tgt := 205) hx hb dX12_readNumber_197 (by decide) (fun c488 => ?_) (fun c488 => ?_)
                    · skip
                      have j489 : iv b36 0 0 := iv_eqc c488 (by decide)
                      refine lv_bipush (v := 10) hx hb dX12_readNumber_205 (by decide) ?_
                      refine lv_imul hx hb dX12_readNumber_207 ?_
                      refine lv_topi (fun v490 ev490 => ?_)
                      have iv490 : iv v490 0 655350 := iv_eq ev490 (iv_mul j487 (by decide : iv 10 10 10) (by decide) (by decide) (by decide))
                      have tv490 : v490.toInt = b169.toInt * 10 := iv_mulT ev490 j487 (by decide) (by decide) (by decide) (by decide)
                      refine lv_iload hx hb dX12_readNumber_208 (lv_at hl 0 rfl) ?_
                      refine jcut (a := ∀ (b494 : Int32) (ib494 : iv b494 0 15) (H : Heap) (locs : List Loc) (hK : va_K (dC, dI) vwCl [(y0, .byte)] s) (hP : va_P (dC, dI) vwCl [(h0, .inr (12, .int x0 :: .ref h1 :: .ref h2 :: .int x1 :: .int x2 :: .int x3 :: .int x4 :: .int x5 :: .int x6 :: .int x7 :: .int x8 :: .int x9 :: [.int x10, .int x11, .int x12, .int x13, .int x14, .int x15, .ref h3, .ref h4, .ref h5, .ref h6, .int x16, .int x17, .int x18, .int x19, .int x20, .int x21, .int x22, .int x23, .ref h7, .int x24, .int x25, .int b168, .int x27, .ref h8, .ref h9, .int x28, .int x29, .long z0, .int x30, .int b169, .ref h10, .ref h11, .ref h12, .ref h13, .ref h14, .int x32, .int x33, .int x34, .int x35, .int x36, .int x37, .int x38, .int x39, .int x40, .ref h15, .ref h16, .int x41, .int x42, .int x43, .int x44, .int x45, .int x46, .int x47, .int x48, .ref h17, .int x49, .int x50, .int x51, .int x52, .int x53])), (h7, .inl (y0, 2600, .inl f0))] H) (hD : va_D A [(h0, .inr (12, .int x0 :: .ref h1 :: .ref h2 :: .int x1 :: .int x2 :: .int x3 :: .int x4 :: .int x5 :: .int x6 :: .int x7 :: .int x8 :: .int x9 :: [.int x10, .int x11, .int x12, .int x13, .int x14, .int x15, .ref h3, .ref h4, .ref h5, .ref h6, .int x16, .int x17, .int x18, .int x19, .int x20, .int x21, .int x22, .int x23, .ref h7, .int x24, .int x25, .int b168, .int x27, .ref h8, .ref h9, .int x28, .int x29, .long z0, .int x30, .int b169, .ref h10, .ref h11, .ref h12, .ref h13, .ref h14, .int x32, .int x33, .int x34, .int x35, .int x36, .int x37, .int x38, .int x39, .int x40, .ref h15, .ref h16, .int x41, .int x42, .int x43, .int x44, .int x45, .int x46, .int x47, .int x48, .ref h17, .int x49, .int x50, .int x51, .int x52, .int x53])), (h7, .inl (y0, 2600, .inl f0))]) (hS : va_S A s.heap H locs) (ls : Array Slot) (hl : lv_has ls 7 [(4, .int b451), (3, .int b167), (2, .int b36), (1, .int u3_0), (0, .ref h0)]), W p l e (headSpec (Cond.code yX12_readNumber cX12_readNumber 7 (some .boolean) :: lw_G) ({ frames := 2, cells := 0, slots := 0, locals := 40 })).room s m ar below meth c H locs 0 0 Q (F0 m 219 ls [.int b494, .int v490, .ref h0])) ?_ (fun j495 => ?_)
                      · skip
                        intro b494 ib494 H locs hK hP hD hS ls hl
                        refine lv_iadd hx hb dX12_readNumber_219 ?_
                        refine lv_topi (fun v496 ev496 => ?_)
                        have iv496 : iv v496 0 655365 := iv_eq ev496 (iv_add iv490 ib494 (by decide) (by decide))
                        have tv496 : v496.toInt = v490.toInt + b494.toInt := iv_add2T ev496 iv490 ib494 (by decide) (by decide)
                        refine va_put (D := (dC, dI)) (ci := 12) (v := .int v496) (ty := .int) (C := RX12) (T := TX12) (N := 72) hx hb hG inGX12 tyX12 tyX12_ok nmX12 hown hK hP hD hS 0 rfl rfl 41 (by decide) (hG _ wd_1348) (fun _ h9 => h9) rfl (by decide +kernel) rfl rfl (Nat.le_of_ble_eq_true rfl) dX12_readNumber_220 (fun H locs hP hD hS => ?_)
                        obtain ⟨hP, hD⟩ := nv_eq (ws' := [(h0, .inr (12, .int x0 :: .ref h1 :: .ref h2 :: .int x1 :: .int x2 :: .int x3 :: .int x4 :: .int x5 :: .int x6 :: .int x7 :: .int x8 :: .int x9 :: [.int x10, .int x11, .int x12, .int x13, .int x14, .int x15, .ref h3, .ref h4, .ref h5, .ref h6, .int x16, .int x17, .int x18, .int x19, .int x20, .int x21, .int x22, .int x23, .ref h7, .int x24, .int x25, .int b168, .int x27, .ref h8, .ref h9, .int x28, .int x29, .long z0, .int x30, .int v496, .ref h10, .ref h11, .ref h12, .ref h13, .ref h14, .int x32, .int x33, .int x34, .int x35, .int x36, .int x37, .int x38, .int x39, .int x40, .ref h15, .ref h16, .int x41, .int x42, .int x43, .int x44, .int x45, .int x46, .int x47, .int x48, .ref h17, .int x49, .int x50, .int x51, .int x52, .int x53])), (h7, .inl (y0, 2600, .inl f0))]) hP hD rfl
                        have oh497 : NB (b167.toInt + 1) v496.toInt := by first | (exact NB_0 (by omega) (by omega)) | (exact NB_ge (by omega)) | (exact NB_step o474 (by omega) (by omega) (by omega)) | (exact NB_step o173 (by omega) (by omega) (by omega)) | (exact NB_to o474 (by omega) (by omega)) | (exact NB_to o173 (by omega) (by omega))
                        exact j475 v496 (iv_w iv496 (by decide) (by decide)) oh497 _ _ hK hP hD hS ls hl
                      refine lv_if_eq (tgt := 218) hx hb dX12_readNumber_210 (by decide) (fun c491 => ?_) (fun c491 => ?_)
                      · skip
                        have j498 : iv b451 0 0 := iv_eqc c491 (by decide)
                        refine lv_iconst (v := 0) hx hb dX12_readNumber_218 (by decide) ?_
                        exact j495 0 (iv_w (by decide : iv 0 0 0) (by decide) (by decide)) _ _ hK hP hD hS ls (lv_sub hl [0, 2, 3, 4, 5] rfl)
                      · skip
                        have j499 : iv b451 1 1 := iv_neLo ib451 (by decide : iv 0 0 0) c491 (by decide)
                        refine lv_iload hx hb dX12_readNumber_213 (lv_at hl 1 rfl) ?_
                        refine lv_goto (tgt := 219) hx hb dX12_readNumber_215 (by decide) ?_
                        have j500 : iv b437 0 15 := ⟨by omega, by omega⟩
                        exact j495 b437 j500 _ _ hK hP hD hS ls (lv_sub hl [0, 2, 3, 4, 5] rfl)
                    · skip
                      have j501 : iv b36 1 1 := iv_neLo ib36 (by decide : iv 0 0 0) c488 (by decide)
                      refine lv_bipush (v := 16) hx hb dX12_readNumber_200 (by decide) ?_
                      refine lv_goto (tgt := 207) hx hb dX12_readNumber_202 (by decide) ?_
                      refine lv_imul hx hb dX12_readNumber_207 ?_
                      refine lv_topi (fun v502 ev502 => ?_)
                      have iv502 : iv v502 0 1048560 := iv_eq ev502 (iv_mul j487 (by decide : iv 16 16 16) (by decide) (by decide) (by decide))
                      have tv502 : v502.toInt = b169.toInt * 16 := iv_mulT ev502 j487 (by decide) (by decide) (by decide) (by decide)
                      refine lv_iload hx hb dX12_readNumber_208 (lv_at hl 0 rfl) ?_
                      refine jcut (a := ∀ (b506 : Int32) (ib506 : iv b506 0 15) (H : Heap) (locs : List Loc) (hK : va_K (dC, dI) vwCl [(y0, .byte)] s) (hP : va_P (dC, dI) vwCl [(h0, .inr (12, .int x0 :: .ref h1 :: .ref h2 :: .int x1 :: .int x2 :: .int x3 :: .int x4 :: .int x5 :: .int x6 :: .int x7 :: .int x8 :: .int x9 :: [.int x10, .int x11, .int x12, .int x13, .int x14, .int x15, .ref h3, .ref h4, .ref h5, .ref h6, .int x16, .int x17, .int x18, .int x19, .int x20, .int x21, .int x22, .int x23, .ref h7, .int x24, .int x25, .int b168, .int x27, .ref h8, .ref h9, .int x28, .int x29, .long z0, .int x30, .int b169, .ref h10, .ref h11, .ref h12, .ref h13, .ref h14, .int x32, .int x33, .int x34, .int x35, .int x36, .int x37, .int x38, .int x39, .int x40, .ref h15, .ref h16, .int x41, .int x42, .int x43, .int x44, .int x45, .int x46, .int x47, .int x48, .ref h17, .int x49, .int x50, .int x51, .int x52, .int x53])), (h7, .inl (y0, 2600, .inl f0))] H) (hD : va_D A [(h0, .inr (12, .int x0 :: .ref h1 :: .ref h2 :: .int x1 :: .int x2 :: .int x3 :: .int x4 :: .int x5 :: .int x6 :: .int x7 :: .int x8 :: .int x9 :: [.int x10, .int x11, .int x12, .int x13, .int x14, .int x15, .ref h3, .ref h4, .ref h5, .ref h6, .int x16, .int x17, .int x18, .int x19, .int x20, .int x21, .int x22, .int x23, .ref h7, .int x24, .int x25, .int b168, .int x27, .ref h8, .ref h9, .int x28, .int x29, .long z0, .int x30, .int b169, .ref h10, .ref h11, .ref h12, .ref h13, .ref h14, .int x32, .int x33, .int x34, .int x35, .int x36, .int x37, .int x38, .int x39, .int x40, .ref h15, .ref h16, .int x41, .int x42, .int x43, .int x44, .int x45, .int x46, .int x47, .int x48, .ref h17, .int x49, .int x50, .int x51, .int x52, .int x53])), (h7, .inl (y0, 2600, .inl f0))]) (hS : va_S A s.heap H locs) (ls : Array Slot) (hl : lv_has ls 7 [(4, .int b451), (3, .int b167), (2, .int b36), (1, .int u3_0), (0, .ref h0)]), W p l e (headSpec (Cond.code yX12_readNumber cX12_readNumber 7 (some .boolean) :: lw_G) ({ frames := 2, cells := 0, slots := 0, locals := 40 })).room s m ar below meth c H locs 0 0 Q (F0 m 219 ls [.int b506, .int v502, .ref h0])) ?_ (fun j507 => ?_)
                      · skip
                        intro b506 ib506 H locs hK hP hD hS ls hl
                        refine lv_iadd hx hb dX12_readNumber_219 ?_
                        refine lv_topi (fun v508 ev508 => ?_)
                        have iv508 : iv v508 0 1048575 := iv_eq ev508 (iv_add iv502 ib506 (by decide) (by decide))
                        have tv508 : v508.toInt = v502.toInt + b506.toInt := iv_add2T ev508 iv502 ib506 (by decide) (by decide)
                        refine va_put (D := (dC, dI)) (ci := 12) (v := .int v508) (ty := .int) (C := RX12) (T := TX12) (N := 72) hx hb hG inGX12 tyX12 tyX12_ok nmX12 hown hK hP hD hS 0 rfl rfl 41 (by decide) (hG _ wd_1348) (fun _ h9 => h9) rfl (by decide +kernel) rfl rfl (Nat.le_of_ble_eq_true rfl) dX12_readNumber_220 (fun H locs hP hD hS => ?_)
                        obtain ⟨hP, hD⟩ := nv_eq (ws' := [(h0, .inr (12, .int x0 :: .ref h1 :: .ref h2 :: .int x1 :: .int x2 :: .int x3 :: .int x4 :: .int x5 :: .int x6 :: .int x7 :: .int x8 :: .int x9 :: [.int x10, .int x11, .int x12, .int x13, .int x14, .int x15, .ref h3, .ref h4, .ref h5, .ref h6, .int x16, .int x17, .int x18, .int x19, .int x20, .int x21, .int x22, .int x23, .ref h7, .int x24, .int x25, .int b168, .int x27, .ref h8, .ref h9, .int x28, .int x29, .long z0, .int x30, .int v508, .ref h10, .ref h11, .ref h12, .ref h13, .ref h14, .int x32, .int x33, .int x34, .int x35, .int x36, .int x37, .int x38, .int x39, .int x40, .ref h15, .ref h16, .int x41, .int x42, .int x43, .int x44, .int x45, .int x46, .int x47, .int x48, .ref h17, .int x49, .int x50, .int x51, .int x52, .int x53])), (h7, .inl (y0, 2600, .inl f0))]) hP hD rfl
                        have oh509 : NB (b167.toInt + 1) v508.toInt := by first | (exact NB_0 (by omega) (by omega)) | (exact NB_ge (by omega)) | (exact NB_step o474 (by omega) (by omega) (by omega)) | (exact NB_step o173 (by omega) (by omega) (by omega)) | (exact NB_to o474 (by omega) (by omega)) | (exact NB_to o173 (by omega) (by omega))
                        exact j475 v508 iv508 oh509 _ _ hK hP hD hS ls hl
                      refine lv_if_eq (tgt := 218) hx hb dX12_readNumber_210 (by decide) (fun c503 => ?_) (fun c503 => ?_)
                      · skip
                        have j510 : iv b451 0 0 := iv_eqc c503 (by decide)
                        refine lv_iconst (v := 0) hx hb dX12_readNumber_218 (by decide) ?_
                        exact j507 0 (iv_w (by decide : iv 0 0 0) (by decide) (by decide)) _ _ hK hP hD hS ls (lv_sub hl [0, 2, 3, 4, 5] rfl)
                      · skip
                        have j511 : iv b451 1 1 := iv_neLo ib451 (by decide : iv 0 0 0) c503 (by decide)
                        refine lv_iload hx hb dX12_readNumber_213 (lv_at hl 1 rfl) ?_
                        refine lv_goto (tgt := 219) hx hb dX12_readNumber_215 (by decide) ?_
                        have j512 : iv b437 0 15 := ⟨by omega, by omega⟩
                        exact j507 b437 j512 _ _ hK hP hD hS ls (lv_sub hl [0, 2, 3, 4, 5] rfl)
                refine lv_if_eq (tgt := 183) hx hb dX12_readNumber_160 (by decide) (fun c439 => ?_) (fun c439 => ?_)
                · skip
                  have j513 : iv b166 0 0 := iv_eqc c439 (by decide)
                  refine lv_iconst (v := 0) hx hb dX12_readNumber_183 (by decide) ?_
                  have kc0 : (0 : Int32).toInt = 0 := by decide
                  have oh514 : b437.toInt + 192 * (0 : Int32).toInt ≤ 207 := by omega
                  exact j453 0 (iv_w (by decide : iv 0 0 0) (by decide) (by decide)) oh514 _ _ hK hP hD hS ls (lv_sub hl [0, 2, 3, 4, 5] rfl)
                · skip
                  have j515 : iv b166 1 1 := iv_neLo ib166 (by decide : iv 0 0 0) c439 (by decide)
                  refine lv_iload hx hb dX12_readNumber_163 (lv_at hl 0 rfl) ?_
                  refine lv_iload_n hx hb dX12_readNumber_165 rfl (lv_at hl 3 rfl) ?_
                  refine jcut (a := ∀ (b519 : Int32) (ib519 : iv b519 10 16) (H : Heap) (locs : List Loc) (hK : va_K (dC, dI) vwCl [(y0, .byte)] s) (hP : va_P (dC, dI) vwCl [(h0, .inr (12, .int x0 :: .ref h1 :: .ref h2 :: .int x1 :: .int x2 :: .int x3 :: .int x4 :: .int x5 :: .int x6 :: .int x7 :: .int x8 :: .int x9 :: [.int x10, .int x11, .int x12, .int x13, .int x14, .int x15, .ref h3, .ref h4, .ref h5, .ref h6, .int x16, .int x17, .int x18, .int x19, .int x20, .int x21, .int x22, .int x23, .ref h7, .int x24, .int x25, .int b168, .int x27, .ref h8, .ref h9, .int x28, .int x29, .long z0, .int x30, .int b169, .ref h10, .ref h11, .ref h12, .ref h13, .ref h14, .int x32, .int x33, .int x34, .int x35, .int x36, .int x37, .int x38, .int x39, .int x40, .ref h15, .ref h16, .int x41, .int x42, .int x43, .int x44, .int x45, .int x46, .int x47, .int x48, .ref h17, .int x49, .int x50, .int x51, .int x52, .int x53])), (h7, .inl (y0, 2600, .inl f0))] H) (hD : va_D A [(h0, .inr (12, .int x0 :: .ref h1 :: .ref h2 :: .int x1 :: .int x2 :: .int x3 :: .int x4 :: .int x5 :: .int x6 :: .int x7 :: .int x8 :: .int x9 :: [.int x10, .int x11, .int x12, .int x13, .int x14, .int x15, .ref h3, .ref h4, .ref h5, .ref h6, .int x16, .int x17, .int x18, .int x19, .int x20, .int x21, .int x22, .int x23, .ref h7, .int x24, .int x25, .int b168, .int x27, .ref h8, .ref h9, .int x28, .int x29, .long z0, .int x30, .int b169, .ref h10, .ref h11, .ref h12, .ref h13, .ref h14, .int x32, .int x33, .int x34, .int x35, .int x36, .int x37, .int x38, .int x39, .int x40, .ref h15, .ref h16, .int x41, .int x42, .int x43, .int x44, .int x45, .int x46, .int x47, .int x48, .ref h17, .int x49, .int x50, .int x51, .int x52, .int x53])), (h7, .inl (y0, 2600, .inl f0))]) (hS : va_S A s.heap H locs) (ls : Array Slot) (hl : lv_has ls 7 [(6, .int b437), (3, .int b167), (2, .int b36), (1, .int u3_0), (0, .ref h0)]), W p l e (headSpec (Cond.code yX12_readNumber cX12_readNumber 7 (some .boolean) :: lw_G) ({ frames := 2, cells := 0, slots := 0, locals := 40 })).room s m ar below meth c H locs 0 0 Q (F0 m 176 ls [.int b519, .int b437])) ?_ (fun j520 => ?_)
                  · skip
                    intro b519 ib519 H locs hK hP hD hS ls hl
                    refine lv_icmp_ge (tgt := 183) hx hb dX12_readNumber_176 (by decide) (fun c521 => ?_) (fun c521 => ?_)
                    · skip
                      have rl522 : b519.toInt ≤ b437.toInt := Int32.le_iff_toInt_le.mp c521
                      have j523 : iv b437 10 207 := iv_leR ib519 ib437 c521 (by decide)
                      refine lv_iconst (v := 0) hx hb dX12_readNumber_183 (by decide) ?_
                      have kc0 : (0 : Int32).toInt = 0 := by decide
                      have oh524 : b437.toInt + 192 * (0 : Int32).toInt ≤ 207 := by omega
                      exact j453 0 (iv_w (by decide : iv 0 0 0) (by decide) (by decide)) oh524 _ _ hK hP hD hS ls hl
                    · skip
                      have rl525 : b437.toInt < b519.toInt := iv_nle2 c521
                      have j526 : iv b437 0 15 := iv_nleR ib519 ib437 c521 (by decide)
                      refine lv_iconst (v := 1) hx hb dX12_readNumber_179 (by decide) ?_
                      refine lv_goto (tgt := 184) hx hb dX12_readNumber_180 (by decide) ?_
                      have kc1 : (1 : Int32).toInt = 1 := by decide
                      have oh527 : b437.toInt + 192 * (1 : Int32).toInt ≤ 207 := by omega
                      exact j453 1 (iv_w (by decide : iv 1 1 1) (by decide) (by decide)) oh527 _ _ hK hP hD hS ls hl
                  refine lv_if_eq (tgt := 174) hx hb dX12_readNumber_166 (by decide) (fun c516 => ?_) (fun c516 => ?_)
                  · skip
                    have j528 : iv b36 0 0 := iv_eqc c516 (by decide)
                    refine lv_bipush (v := 10) hx hb dX12_readNumber_174 (by decide) ?_
                    exact j520 10 (iv_w (by decide : iv 10 10 10) (by decide) (by decide)) _ _ hK hP hD hS ls (lv_sub hl [0, 2, 3, 4, 5] rfl)
                  · skip
                    have j529 : iv b36 1 1 := iv_neLo ib36 (by decide : iv 0 0 0) c516 (by decide)
                    refine lv_bipush (v := 16) hx hb dX12_readNumber_169 (by decide) ?_
                    refine lv_goto (tgt := 176) hx hb dX12_readNumber_171 (by decide) ?_
                    exact j520 16 (iv_w (by decide : iv 16 16 16) (by decide) (by decide)) _ _ hK hP hD hS ls (lv_sub hl [0, 2, 3, 4, 5] rfl)
              refine lv_if_eq (tgt := 139) hx hb dX12_readNumber_128 (by decide) (fun c429 => ?_) (fun c429 => ?_)
              · skip
                have j530 : iv r424 0 0 := iv_eqc c429 (by decide)
                refine lv_iload hx hb dX12_readNumber_139 (lv_at hl 0 rfl) ?_
                refine lv_bipush (v := 103) hx hb dX12_readNumber_141 (by decide) ?_
                refine lv_icmp_ge (tgt := 154) hx hb dX12_readNumber_143 (by decide) (fun c531 => ?_) (fun c531 => ?_)
                · skip
                  have j532 : iv r420 103 255 := iv_leR (by decide : iv 103 103 103) ir420 c531 (by decide)
                  refine lv_bipush (v := 99) hx hb dX12_readNumber_154 (by decide) ?_
                  exact j438 99 (iv_w (by decide : iv 99 99 99) (by decide) (by decide)) _ _ hK hP hD hS ls (lv_sub hl [1, 2, 3, 4, 5] rfl)
                · skip
                  have j533 : iv r420 (-1) 102 := iv_nleR (by decide : iv 103 103 103) ir420 c531 (by decide)
                  refine lv_iload hx hb dX12_readNumber_146 (lv_at hl 0 rfl) ?_
                  refine lv_bipush (v := 87) hx hb dX12_readNumber_148 (by decide) ?_
                  refine lv_isub hx hb dX12_readNumber_150 ?_
                  refine lv_topi (fun v534 ev534 => ?_)
                  have iv534 : iv v534 (-88) 15 := iv_eq ev534 (iv_sub j533 (by decide : iv 87 87 87) (by decide) (by decide))
                  have tv534 : v534.toInt = r420.toInt + (-87) := iv_subT ev534 j533 (by decide) (by decide) (by decide)
                  refine lv_goto (tgt := 156) hx hb dX12_readNumber_151 (by decide) ?_
                  have j535 : iv v534 0 207 := ⟨by omega, by omega⟩
                  exact j438 v534 j535 _ _ hK hP hD hS ls (lv_sub hl [1, 2, 3, 4, 5] rfl)
              · skip
                have j536 : iv r424 1 1 := iv_neLo ir424 (by decide : iv 0 0 0) c429 (by decide)
                refine lv_iload hx hb dX12_readNumber_131 (lv_at hl 0 rfl) ?_
                refine lv_bipush (v := 48) hx hb dX12_readNumber_133 (by decide) ?_
                refine lv_isub hx hb dX12_readNumber_135 ?_
                refine lv_topi (fun v537 ev537 => ?_)
                have iv537 : iv v537 (-49) 207 := iv_eq ev537 (iv_sub ir420 (by decide : iv 48 48 48) (by decide) (by decide))
                have tv537 : v537.toInt = r420.toInt + (-48) := iv_subT ev537 ir420 (by decide) (by decide) (by decide)
                refine lv_goto (tgt := 156) hx hb dX12_readNumber_136 (by decide) ?_
                have j538 : iv v537 0 207 := ⟨by omega, by omega⟩
                exact j438 v537 j538 _ _ hK hP hD hS ls (lv_sub hl [1, 2, 3, 4, 5] rfl)
            · skip
              have j539 : iv r353 0 0 := iv_eqc c358 (by decide)
              refine lv_aload_n hx hb dX12_readNumber_107 rfl (lv_at hl 4 rfl) ?_
              obtain ⟨hPc, hDc, hFc⟩ := nv_sub3 (wc := [(h0, .inr (12, .int x0 :: .ref h1 :: .ref h2 :: .int x1 :: .int x2 :: .int x3 :: .int x4 :: .int x5 :: .int x6 :: .int x7 :: .int x8 :: .int x9 :: [.int x10, .int x11, .int x12, .int x13, .int x14, .int x15, .ref h3, .ref h4, .ref h5, .ref h6, .int x16, .int x17, .int x18, .int x19, .int x20, .int x21, .int x22, .int x23, .ref h7, .int x24, .int x25, .int b168, .int x27, .ref h8, .ref h9, .int x28, .int x29, .long z0, .int x30, .int b169, .ref h10, .ref h11, .ref h12, .ref h13, .ref h14, .int x32, .int x33, .int x34, .int x35, .int x36, .int x37, .int x38, .int x39, .int x40, .ref h15, .ref h16, .int x41, .int x42, .int x43, .int x44, .int x45, .int x46, .int x47, .int x48, .ref h17, .int x49, .int x50, .int x51, .int x52, .int x53])), (h7, .inl (y0, 2600, .inl f0))]) hP hD hS hA [0, 1] (by decide) rfl
              have hKc := hK.sub (tys' := [(y0, .byte)]) [0] rfl
              have oh540 : b168.toInt ≤ x27.toInt := by omega
              refine va_calli (va_runV (As := []) (rest := []) ⟨hx, hb, hml, hown, hG⟩ (cX12_peek__1 l dC dI h0 h1 h2 h3 h4 h5 h6 h7 h8 h9 h10 h11 h12 h13 h14 h15 h16 h17 y0 H.size x0 x1 x2 x3 x4 x5 x6 x7 x8 x9 x10 x11 x12 x13 x14 x15 x16 x17 x18 x19 x20 x21 x22 x23 x24 x25 b168 x27 x28 x29 x30 b169 x32 x33 x34 x35 x36 x37 x38 x39 x40 x41 x42 x43 x44 x45 x46 x47 x48 x49 x50 x51 x52 x53 z0 f0 ix15 ix16 ix21 ix22 ix23 ix24 ix25 ib168 ix27 ib169 ix32 ix33 ix34 ix35 ix36 ix41 ix42 ix46 ix47 ix49 ix53 if0 oh540) (cwV 0 hG (gV wd_1720 wd_1722 wp_99 wd_17 wd_1723) rfl rfl rfl (by decide +kernel) ⟨Nat.le_of_ble_eq_true rfl, Nat.le_of_ble_eq_true rfl⟩) ⟨fun a U g mk q => by obtain ⟨q0, q1, qP, qK, qD⟩ := q; exact ⟨q0, q1, qP, va_K.moved (u := U) (U := U.calling g mk a) (Vm.Alike.refl U.vm) qK, qD⟩, va_recv hKc hPc (ci := 12) (q0 := 0) rfl rfl, fun U hU hW => ⟨rfl, by rw [hU], by rw [hU]; exact hPc, va_K.moved hW.alike hKc, hDc.weaken (fun _ _ _ _ => trivial)⟩⟩ rfl rfl hl.1 rfl (lv_room (Nat.le_of_ble_eq_true rfl)) dX12_readNumber_108 ⟨by decide, by decide⟩) hS (fun q _ h => hFc q h) hFc (fun r541 u542 t H1 locs ht hvm hw hB hz1 hk1 hS => ?_)
              have hw : iv r541 (-1) 255 ∧ (256 * (b168.toInt + 1 - x27.toInt) ≤ 255 - r541.toInt) ∧ (r541.toInt = (pkf b168 x27 f0).toInt) ∧ True := hw
              obtain ⟨ir541, op543, op544, -⟩ := hw
              obtain ⟨hP1, hK1, hD1⟩ := hB
              rw [ht] at hP1
              have hK1 := va_K.moved hvm.symm hK1
              obtain ⟨hP, hD⟩ := nv_join (wf := [(h0, .inr (12, .int x0 :: .ref h1 :: .ref h2 :: .int x1 :: .int x2 :: .int x3 :: .int x4 :: .int x5 :: .int x6 :: .int x7 :: .int x8 :: .int x9 :: [.int x10, .int x11, .int x12, .int x13, .int x14, .int x15, .ref h3, .ref h4, .ref h5, .ref h6, .int x16, .int x17, .int x18, .int x19, .int x20, .int x21, .int x22, .int x23, .ref h7, .int x24, .int x25, .int b168, .int x27, .ref h8, .ref h9, .int x28, .int x29, .long z0, .int x30, .int b169, .ref h10, .ref h11, .ref h12, .ref h13, .ref h14, .int x32, .int x33, .int x34, .int x35, .int x36, .int x37, .int x38, .int x39, .int x40, .ref h15, .ref h16, .int x41, .int x42, .int x43, .int x44, .int x45, .int x46, .int x47, .int x48, .ref h17, .int x49, .int x50, .int x51, .int x52, .int x53])), (h7, .inl (y0, 2600, .inl f0))]) hP hD [0, 1] [] rfl rfl (by decide) (by decide) hk1 hFc hP1 hD1 rfl
              have hK := (hK.sub (tys' := []) [] rfl).app hK1
              generalize H1 = H at hP hS ⊢
              have hK : va_K (dC, dI) vwCl [(y0, .byte)] s := hK
              clear hKc hPc hDc hFc hP1 hD1 hK1 hk1 hz1
              obtain ⟨hPc, hDc, hFc⟩ := nv_sub3 (wc := []) hP hD hS hA [] (by decide) rfl
              have hKc := hK.sub (tys' := []) [] rfl
              refine va_calli (va_runS (As := [.int r541]) (rest := []) ⟨hx, hb, hml, hown, hG⟩ (cX12_isDigit_1 l dC dI H.size r541) (va_cwS 1 hG (gS wd_1735 wd_1736 wd_17 wd_1737) rfl rfl rfl (by decide +kernel) ⟨Nat.le_of_ble_eq_true rfl, Nat.le_of_ble_eq_true rfl⟩) ⟨fun a U g mk q => by obtain ⟨q0, q1, qP, qK, qD⟩ := q; exact ⟨q0, q1, qP, va_K.moved (u := U) (U := U.calling g mk a) (Vm.Alike.refl U.vm) qK, qD⟩, fun U hU hW => ⟨rfl, by rw [hU], by rw [hU]; exact hPc, va_K.moved hW.alike hKc, hDc.weaken (fun _ _ _ _ => trivial)⟩⟩ rfl rfl hl.1 rfl (lv_room (Nat.le_of_ble_eq_true rfl)) dX12_readNumber_111 ⟨by decide, by decide⟩) hS (fun q _ h => hFc q h) hFc (fun r545 u546 t H1 locs ht hvm hw hB hz1 hk1 hS => ?_)
              have hw : iv r545 0 1 ∧ (48 * r545.toInt ≤ r541.toInt + 2147483648 * (1 - r545.toInt)) ∧ (r541.toInt ≤ 57 * r545.toInt + 2147483647 * (1 - r545.toInt)) ∧ (r545.toInt = 1 ∨ r541.toInt < 48 ∨ 57 < r541.toInt) ∧ True := hw
              obtain ⟨ir545, op547, op548, op549, -⟩ := hw
              obtain ⟨hP1, hK1, hD1⟩ := hB
              rw [ht] at hP1
              have hK1 := va_K.moved hvm.symm hK1
              obtain ⟨hP, hD⟩ := nv_join (wf := [(h0, .inr (12, .int x0 :: .ref h1 :: .ref h2 :: .int x1 :: .int x2 :: .int x3 :: .int x4 :: .int x5 :: .int x6 :: .int x7 :: .int x8 :: .int x9 :: [.int x10, .int x11, .int x12, .int x13, .int x14, .int x15, .ref h3, .ref h4, .ref h5, .ref h6, .int x16, .int x17, .int x18, .int x19, .int x20, .int x21, .int x22, .int x23, .ref h7, .int x24, .int x25, .int b168, .int x27, .ref h8, .ref h9, .int x28, .int x29, .long z0, .int x30, .int b169, .ref h10, .ref h11, .ref h12, .ref h13, .ref h14, .int x32, .int x33, .int x34, .int x35, .int x36, .int x37, .int x38, .int x39, .int x40, .ref h15, .ref h16, .int x41, .int x42, .int x43, .int x44, .int x45, .int x46, .int x47, .int x48, .ref h17, .int x49, .int x50, .int x51, .int x52, .int x53])), (h7, .inl (y0, 2600, .inl f0))]) hP hD [] [0, 1] rfl rfl (by decide) (by decide) hk1 hFc hP1 hD1 rfl
              have hK := (hK.sub (tys' := [(y0, .byte)]) [0] rfl).app hK1
              generalize H1 = H at hP hS ⊢
              have hK : va_K (dC, dI) vwCl [(y0, .byte)] s := hK
              clear hKc hPc hDc hFc hP1 hD1 hK1 hk1 hz1
              refine lv_if_eq (tgt := 239) hx hb dX12_readNumber_114 (by decide) (fun c550 => ?_) (fun c550 => ?_)
              · skip
                have j610 : iv r545 0 0 := iv_eqc c550 (by decide)
                refine lv_iload hx hb dX12_readNumber_239 (lv_at hl 0 rfl) ?_
                refine jcut (a := ∀ (b632 : Int32) (b633 : Int32) (b634 : Int32) (ib632 : iv b632 0 1) (o635 : x26.toInt + b632.toInt ≤ b168.toInt) (H : Heap) (locs : List Loc) (hK : va_K (dC, dI) vwCl [(y0, .byte)] s) (hP : va_P (dC, dI) vwCl [(h7, .inl (y0, 2600, .inl f0)), (h0, .inr (12, .int x0 :: .ref h1 :: .ref h2 :: .int x1 :: .int x2 :: .int x3 :: .int x4 :: .int x5 :: .int x6 :: .int x7 :: .int x8 :: .int x9 :: [.int x10, .int x11, .int x12, .int x13, .int x14, .int x15, .ref h3, .ref h4, .ref h5, .ref h6, .int x16, .int x17, .int x18, .int x19, .int x20, .int x21, .int x22, .int x23, .ref h7, .int x24, .int x25, .int b168, .int x27, .ref h8, .ref h9, .int b633, .int b634, .long z0, .int x30, .int b169, .ref h10, .ref h11, .ref h12, .ref h13, .ref h14, .int x32, .int x33, .int x34, .int x35, .int x36, .int x37, .int x38, .int x39, .int x40, .ref h15, .ref h16, .int x41, .int x42, .int x43, .int x44, .int x45, .int x46, .int x47, .int x48, .ref h17, .int x49, .int x50, .int x51, .int x52, .int x53]))] H) (hD : va_D A [(h7, .inl (y0, 2600, .inl f0)), (h0, .inr (12, .int x0 :: .ref h1 :: .ref h2 :: .int x1 :: .int x2 :: .int x3 :: .int x4 :: .int x5 :: .int x6 :: .int x7 :: .int x8 :: .int x9 :: [.int x10, .int x11, .int x12, .int x13, .int x14, .int x15, .ref h3, .ref h4, .ref h5, .ref h6, .int x16, .int x17, .int x18, .int x19, .int x20, .int x21, .int x22, .int x23, .ref h7, .int x24, .int x25, .int b168, .int x27, .ref h8, .ref h9, .int b633, .int b634, .long z0, .int x30, .int b169, .ref h10, .ref h11, .ref h12, .ref h13, .ref h14, .int x32, .int x33, .int x34, .int x35, .int x36, .int x37, .int x38, .int x39, .int x40, .ref h15, .ref h16, .int x41, .int x42, .int x43, .int x44, .int x45, .int x46, .int x47, .int x48, .ref h17, .int x49, .int x50, .int x51, .int x52, .int x53]))]) (hS : va_S A s.heap H locs) (ls : Array Slot) (hl : lv_has ls 7 []), W p l e (headSpec (Cond.code yX12_readNumber cX12_readNumber 7 (some .boolean) :: lw_G) ({ frames := 2, cells := 0, slots := 0, locals := 40 })).room s m ar below meth c H locs 0 0 Q (F0 m 275 ls [.int b632])) ?_ (fun j636 => ?_)
                · skip
                  intro b632 b633 b634 ib632 o635 H locs hK hP hD hS ls hl
                  rw [hQ]
                  obtain ⟨hP9, hD9⟩ := nv_sub2 (wc := [(h0, .inr (12, .int x0 :: .ref h1 :: .ref h2 :: .int x1 :: .int x2 :: .int x3 :: .int x4 :: .int x5 :: .int x6 :: .int x7 :: .int x8 :: .int x9 :: [.int x10, .int x11, .int x12, .int x13, .int x14, .int x15, .ref h3, .ref h4, .ref h5, .ref h6, .int x16, .int x17, .int x18, .int x19, .int x20, .int x21, .int x22, .int x23, .ref h7, .int x24, .int x25, .int b168, .int x27, .ref h8, .ref h9, .int b633, .int b634, .long z0, .int x30, .int b169, .ref h10, .ref h11, .ref h12, .ref h13, .ref h14, .int x32, .int x33, .int x34, .int x35, .int x36, .int x37, .int x38, .int x39, .int x40, .ref h15, .ref h16, .int x41, .int x42, .int x43, .int x44, .int x45, .int x46, .int x47, .int x48, .ref h17, .int x49, .int x50, .int x51, .int x52, .int x53])), (h7, .inl (y0, 2600, .inl f0))]) hP hD [1, 0] (by decide) rfl
                  have hK9 := hK.sub (tys' := [(y0, .byte)]) [0] rfl
                  have oh637 : x26.toInt ≤ b168.toInt := by omega
                  have oh638 : b168.toInt ≤ x27.toInt := by omega
                  have oh639 : x26.toInt + b632.toInt ≤ b168.toInt := by omega
                  exact W.zret (v := b632) hx hb hr (iv_z (iv_w ib632 (by decide) (by decide))).1 (fun t ht hW => ⟨⟨b632, (b168, b633, b634, b169), rfl, ⟨iv_w ib632 (by decide) (by decide), iv_w ib168 (by decide) (by decide), iv_w ib169 (by decide) (by decide), oh637, oh638, oh639, trivial⟩, by rw [ht]; exact hP9, va_K.moved hW.alike hK9, hD9⟩, hS.F ht⟩) hS.2.2 dX12_readNumber_275
                refine lv_if_eq (tgt := 261) hx hb dX12_readNumber_241 (by decide) (fun c611 => ?_) (fun c611 => ?_)
                · skip
                  have j640 : iv b166 0 0 := iv_eqc c611 (by decide)
                  refine lv_aload_n hx hb dX12_readNumber_261 rfl (lv_at hl 4 rfl) ?_
                  refine lv_iconst (v := 1) hx hb dX12_readNumber_262 (by decide) ?_
                  refine lv_iload_n hx hb dX12_readNumber_263 rfl (lv_at hl 3 rfl) ?_
                  obtain ⟨hPc, hDc, hFc⟩ := nv_sub3 (wc := [(h0, .inr (12, .int x0 :: .ref h1 :: .ref h2 :: .int x1 :: .int x2 :: .int x3 :: .int x4 :: .int x5 :: .int x6 :: .int x7 :: .int x8 :: .int x9 :: [.int x10, .int x11, .int x12, .int x13, .int x14, .int x15, .ref h3, .ref h4, .ref h5, .ref h6, .int x16, .int x17, .int x18, .int x19, .int x20, .int x21, .int x22, .int x23, .ref h7, .int x24, .int x25, .int b168, .int x27, .ref h8, .ref h9, .int x28, .int x29, .long z0, .int x30, .int b169, .ref h10, .ref h11, .ref h12, .ref h13, .ref h14, .int x32, .int x33, .int x34, .int x35, .int x36, .int x37, .int x38, .int x39, .int x40, .ref h15, .ref h16, .int x41, .int x42, .int x43, .int x44, .int x45, .int x46, .int x47, .int x48, .ref h17, .int x49, .int x50, .int x51, .int x52, .int x53]))]) hP hD hS hA [0] (by decide) rfl
                  have hKc := hK.sub (tys' := []) [] rfl
                  refine va_calli (va_runV (As := [.int 1, .int u3_0]) (rest := []) ⟨hx, hb, hml, hown, hG⟩ (cX12_wrong_1 l dC dI h0 h1 h2 h3 h4 h5 h6 h7 h8 h9 h10 h11 h12 h13 h14 h15 h16 h17 H.size 1 u3_0 x0 x1 x2 x3 x4 x5 x6 x7 x8 x9 x10 x11 x12 x13 x14 x15 x16 x17 x18 x19 x20 x21 x22 x23 x24 x25 b168 x27 x28 x29 x30 b169 x32 x33 x34 x35 x36 x37 x38 x39 x40 x41 x42 x43 x44 x45 x46 x47 x48 x49 x50 x51 x52 x53 z0 ix15 ix16 ix21 ix22 ix23 ix24 ix25 ib168 ix27 ib169 ix32 ix33 ix34 ix35 ix36 ix41 ix42 ix46 ix47 ix49 ix53) (cwV 2 hG (gV wd_1731 wd_1733 wp_101 wd_17 wd_1734) rfl rfl rfl (by decide +kernel) ⟨Nat.le_of_ble_eq_true rfl, Nat.le_of_ble_eq_true rfl⟩) ⟨fun a U g mk q => by obtain ⟨q0, q1, qP, qK, qD⟩ := q; exact ⟨q0, q1, qP, va_K.moved (u := U) (U := U.calling g mk a) (Vm.Alike.refl U.vm) qK, qD⟩, va_recv hKc hPc (ci := 12) (q0 := 0) rfl rfl, fun U hU hW => ⟨rfl, by rw [hU], by rw [hU]; exact hPc, va_K.moved hW.alike hKc, hDc.weaken (fun _ _ _ _ => trivial)⟩⟩ rfl rfl hl.1 rfl (lv_room (Nat.le_of_ble_eq_true rfl)) dX12_readNumber_264 ⟨by decide, by decide⟩) hS (fun q _ h => hFc q h) hFc (fun r641 u642 t H1 locs ht hvm hw hB hz1 hk1 hS => ?_)
                  have hw : r641 = 0 ∧ True := hw
                  obtain ⟨er641, -⟩ := hw
                  obtain ⟨hP1, hK1, hD1⟩ := hB
                  rw [ht] at hP1
                  have hK1 := va_K.moved hvm.symm hK1
                  obtain ⟨hP, hD⟩ := nv_join (wf := [(h7, .inl (y0, 2600, .inl f0)), (h0, .inr (12, .int x0 :: .ref h1 :: .ref h2 :: .int x1 :: .int x2 :: .int x3 :: .int x4 :: .int x5 :: .int x6 :: .int x7 :: .int x8 :: .int x9 :: [.int x10, .int x11, .int x12, .int x13, .int x14, .int x15, .ref h3, .ref h4, .ref h5, .ref h6, .int x16, .int x17, .int x18, .int x19, .int x20, .int x21, .int x22, .int x23, .ref h7, .int x24, .int x25, .int b168, .int x27, .ref h8, .ref h9, .int 1, .int u3_0, .long z0, .int x30, .int b169, .ref h10, .ref h11, .ref h12, .ref h13, .ref h14, .int x32, .int x33, .int x34, .int x35, .int x36, .int x37, .int x38, .int x39, .int x40, .ref h15, .ref h16, .int x41, .int x42, .int x43, .int x44, .int x45, .int x46, .int x47, .int x48, .ref h17, .int x49, .int x50, .int x51, .int x52, .int x53]))]) hP hD [0] [1] rfl rfl (by decide) (by decide) hk1 hFc hP1 hD1 rfl
                  have hK := (hK.sub (tys' := [(y0, .byte)]) [0] rfl).app hK1
                  generalize H1 = H at hP hS ⊢
                  have hK : va_K (dC, dI) vwCl [(y0, .byte)] s := hK
                  clear hKc hPc hDc hFc hP1 hD1 hK1 hk1 hz1
                  subst er641
                  refine lv_if_eq (tgt := 274) hx hb dX12_readNumber_267 (by decide) (fun _ => ?_) (fun c => absurd (by decide) c)
                  refine lv_iconst (v := 0) hx hb dX12_readNumber_274 (by decide) ?_
                  have kc0 : (0 : Int32).toInt = 0 := by decide
                  have oh643 : x26.toInt + (0 : Int32).toInt ≤ b168.toInt := by omega
                  exact j636 0 1 u3_0 (iv_w (by decide : iv 0 0 0) (by decide) (by decide)) oh643 _ _ hK hP hD hS ls (lv_sub hl [] rfl)
                · skip
                  have j644 : iv b166 1 1 := iv_neLo ib166 (by decide : iv 0 0 0) c611 (by decide)
                  refine lv_iload_n hx hb dX12_readNumber_244 rfl (lv_at hl 1 rfl) ?_
                  refine lv_if_le (tgt := 261) hx hb dX12_readNumber_245 (by decide) (fun c645 => ?_) (fun c645 => ?_)
                  · skip
                    have j646 : iv b167 0 0 := iv_leL ib167 (by decide : iv 0 0 0) c645 (by decide)
                    refine lv_aload_n hx hb dX12_readNumber_261 rfl (lv_at hl 4 rfl) ?_
                    refine lv_iconst (v := 1) hx hb dX12_readNumber_262 (by decide) ?_
                    refine lv_iload_n hx hb dX12_readNumber_263 rfl (lv_at hl 3 rfl) ?_
                    obtain ⟨hPc, hDc, hFc⟩ := nv_sub3 (wc := [(h0, .inr (12, .int x0 :: .ref h1 :: .ref h2 :: .int x1 :: .int x2 :: .int x3 :: .int x4 :: .int x5 :: .int x6 :: .int x7 :: .int x8 :: .int x9 :: [.int x10, .int x11, .int x12, .int x13, .int x14, .int x15, .ref h3, .ref h4, .ref h5, .ref h6, .int x16, .int x17, .int x18, .int x19, .int x20, .int x21, .int x22, .int x23, .ref h7, .int x24, .int x25, .int b168, .int x27, .ref h8, .ref h9, .int x28, .int x29, .long z0, .int x30, .int b169, .ref h10, .ref h11, .ref h12, .ref h13, .ref h14, .int x32, .int x33, .int x34, .int x35, .int x36, .int x37, .int x38, .int x39, .int x40, .ref h15, .ref h16, .int x41, .int x42, .int x43, .int x44, .int x45, .int x46, .int x47, .int x48, .ref h17, .int x49, .int x50, .int x51, .int x52, .int x53]))]) hP hD hS hA [0] (by decide) rfl
                    have hKc := hK.sub (tys' := []) [] rfl
                    refine va_calli (va_runV (As := [.int 1, .int u3_0]) (rest := []) ⟨hx, hb, hml, hown, hG⟩ (cX12_wrong_1 l dC dI h0 h1 h2 h3 h4 h5 h6 h7 h8 h9 h10 h11 h12 h13 h14 h15 h16 h17 H.size 1 u3_0 x0 x1 x2 x3 x4 x5 x6 x7 x8 x9 x10 x11 x12 x13 x14 x15 x16 x17 x18 x19 x20 x21 x22 x23 x24 x25 b168 x27 x28 x29 x30 b169 x32 x33 x34 x35 x36 x37 x38 x39 x40 x41 x42 x43 x44 x45 x46 x47 x48 x49 x50 x51 x52 x53 z0 ix15 ix16 ix21 ix22 ix23 ix24 ix25 ib168 ix27 ib169 ix32 ix33 ix34 ix35 ix36 ix41 ix42 ix46 ix47 ix49 ix53) (cwV 2 hG (gV wd_1731 wd_1733 wp_101 wd_17 wd_1734) rfl rfl rfl (by decide +kernel) ⟨Nat.le_of_ble_eq_true rfl, Nat.le_of_ble_eq_true rfl⟩) ⟨fun a U g mk q => by obtain ⟨q0, q1, qP, qK, qD⟩ := q; exact ⟨q0, q1, qP, va_K.moved (u := U) (U := U.calling g mk a) (Vm.Alike.refl U.vm) qK, qD⟩, va_recv hKc hPc (ci := 12) (q0 := 0) rfl rfl, fun U hU hW => ⟨rfl, by rw [hU], by rw [hU]; exact hPc, va_K.moved hW.alike hKc, hDc.weaken (fun _ _ _ _ => trivial)⟩⟩ rfl rfl hl.1 rfl (lv_room (Nat.le_of_ble_eq_true rfl)) dX12_readNumber_264 ⟨by decide, by decide⟩) hS (fun q _ h => hFc q h) hFc (fun r647 u648 t H1 locs ht hvm hw hB hz1 hk1 hS => ?_)
                    have hw : r647 = 0 ∧ True := hw
                    obtain ⟨er647, -⟩ := hw
                    obtain ⟨hP1, hK1, hD1⟩ := hB
                    rw [ht] at hP1
                    have hK1 := va_K.moved hvm.symm hK1
                    obtain ⟨hP, hD⟩ := nv_join (wf := [(h7, .inl (y0, 2600, .inl f0)), (h0, .inr (12, .int x0 :: .ref h1 :: .ref h2 :: .int x1 :: .int x2 :: .int x3 :: .int x4 :: .int x5 :: .int x6 :: .int x7 :: .int x8 :: .int x9 :: [.int x10, .int x11, .int x12, .int x13, .int x14, .int x15, .ref h3, .ref h4, .ref h5, .ref h6, .int x16, .int x17, .int x18, .int x19, .int x20, .int x21, .int x22, .int x23, .ref h7, .int x24, .int x25, .int b168, .int x27, .ref h8, .ref h9, .int 1, .int u3_0, .long z0, .int x30, .int b169, .ref h10, .ref h11, .ref h12, .ref h13, .ref h14, .int x32, .int x33, .int x34, .int x35, .int x36, .int x37, .int x38, .int x39, .int x40, .ref h15, .ref h16, .int x41, .int x42, .int x43, .int x44, .int x45, .int x46, .int x47, .int x48, .ref h17, .int x49, .int x50, .int x51, .int x52, .int x53]))]) hP hD [0] [1] rfl rfl (by decide) (by decide) hk1 hFc hP1 hD1 rfl
                    have hK := (hK.sub (tys' := [(y0, .byte)]) [0] rfl).app hK1
                    generalize H1 = H at hP hS ⊢
                    have hK : va_K (dC, dI) vwCl [(y0, .byte)] s := hK
                    clear hKc hPc hDc hFc hP1 hD1 hK1 hk1 hz1
                    subst er647
                    refine lv_if_eq (tgt := 274) hx hb dX12_readNumber_267 (by decide) (fun _ => ?_) (fun c => absurd (by decide) c)
                    refine lv_iconst (v := 0) hx hb dX12_readNumber_274 (by decide) ?_
                    have kc0 : (0 : Int32).toInt = 0 := by decide
                    have oh649 : x26.toInt + (0 : Int32).toInt ≤ b168.toInt := by omega
                    exact j636 0 1 u3_0 (iv_w (by decide : iv 0 0 0) (by decide) (by decide)) oh649 _ _ hK hP hD hS ls (lv_sub hl [] rfl)
                  · skip
                    have j650 : iv b167 1 2500 := iv_nleL ib167 (by decide : iv 0 0 0) c645 (by decide)
                    refine lv_iload_n hx hb dX12_readNumber_248 rfl (lv_at hl 1 rfl) ?_
                    refine lv_iload_n hx hb dX12_readNumber_249 rfl (lv_at hl 2 rfl) ?_
                    refine jcut (a := ∀ (b654 : Int32) (ib654 : iv b654 4 5) (H : Heap) (locs : List Loc) (hK : va_K (dC, dI) vwCl [(y0, .byte)] s) (hP : va_P (dC, dI) vwCl [(h0, .inr (12, .int x0 :: .ref h1 :: .ref h2 :: .int x1 :: .int x2 :: .int x3 :: .int x4 :: .int x5 :: .int x6 :: .int x7 :: .int x8 :: .int x9 :: [.int x10, .int x11, .int x12, .int x13, .int x14, .int x15, .ref h3, .ref h4, .ref h5, .ref h6, .int x16, .int x17, .int x18, .int x19, .int x20, .int x21, .int x22, .int x23, .ref h7, .int x24, .int x25, .int b168, .int x27, .ref h8, .ref h9, .int x28, .int x29, .long z0, .int x30, .int b169, .ref h10, .ref h11, .ref h12, .ref h13, .ref h14, .int x32, .int x33, .int x34, .int x35, .int x36, .int x37, .int x38, .int x39, .int x40, .ref h15, .ref h16, .int x41, .int x42, .int x43, .int x44, .int x45, .int x46, .int x47, .int x48, .ref h17, .int x49, .int x50, .int x51, .int x52, .int x53])), (h7, .inl (y0, 2600, .inl f0))] H) (hD : va_D A [(h0, .inr (12, .int x0 :: .ref h1 :: .ref h2 :: .int x1 :: .int x2 :: .int x3 :: .int x4 :: .int x5 :: .int x6 :: .int x7 :: .int x8 :: .int x9 :: [.int x10, .int x11, .int x12, .int x13, .int x14, .int x15, .ref h3, .ref h4, .ref h5, .ref h6, .int x16, .int x17, .int x18, .int x19, .int x20, .int x21, .int x22, .int x23, .ref h7, .int x24, .int x25, .int b168, .int x27, .ref h8, .ref h9, .int x28, .int x29, .long z0, .int x30, .int b169, .ref h10, .ref h11, .ref h12, .ref h13, .ref h14, .int x32, .int x33, .int x34, .int x35, .int x36, .int x37, .int x38, .int x39, .int x40, .ref h15, .ref h16, .int x41, .int x42, .int x43, .int x44, .int x45, .int x46, .int x47, .int x48, .ref h17, .int x49, .int x50, .int x51, .int x52, .int x53])), (h7, .inl (y0, 2600, .inl f0))]) (hS : va_S A s.heap H locs) (ls : Array Slot) (hl : lv_has ls 7 [(1, .int u3_0), (0, .ref h0)]), W p l e (headSpec (Cond.code yX12_readNumber cX12_readNumber 7 (some .boolean) :: lw_G) ({ frames := 2, cells := 0, slots := 0, locals := 40 })).room s m ar below meth c H locs 0 0 Q (F0 m 258 ls [.int b654, .int b167])) ?_ (fun j655 => ?_)
                    · skip
                      intro b654 ib654 H locs hK hP hD hS ls hl
                      refine lv_icmp_le (tgt := 270) hx hb dX12_readNumber_258 (by decide) (fun c656 => ?_) (fun c656 => ?_)
                      · skip
                        have rl657 : b167.toInt ≤ b654.toInt := Int32.le_iff_toInt_le.mp c656
                        have j658 : iv b167 1 5 := iv_leL j650 ib654 c656 (by decide)
                        refine lv_iconst (v := 1) hx hb dX12_readNumber_270 (by decide) ?_
                        refine lv_goto (tgt := 275) hx hb dX12_readNumber_271 (by decide) ?_
                        have kc1 : (1 : Int32).toInt = 1 := by decide
                        have oh659 : x26.toInt + (1 : Int32).toInt ≤ b168.toInt := by omega
                        exact j636 1 x28 x29 (iv_w (by decide : iv 1 1 1) (by decide) (by decide)) oh659 _ _ hK (hP.sub (ws' := _) [1, 0] rfl) (hD.sub (ws' := _) [1, 0] (by decide) rfl) hS ls (lv_sub hl [] rfl)
                      · skip
                        have rl660 : b654.toInt < b167.toInt := iv_nle2 c656
                        have j661 : iv b167 5 2500 := iv_nleL j650 ib654 c656 (by decide)
                        refine lv_aload_n hx hb dX12_readNumber_261 rfl (lv_at hl 1 rfl) ?_
                        refine lv_iconst (v := 1) hx hb dX12_readNumber_262 (by decide) ?_
                        refine lv_iload_n hx hb dX12_readNumber_263 rfl (lv_at hl 0 rfl) ?_
                        obtain ⟨hPc, hDc, hFc⟩ := nv_sub3 (wc := [(h0, .inr (12, .int x0 :: .ref h1 :: .ref h2 :: .int x1 :: .int x2 :: .int x3 :: .int x4 :: .int x5 :: .int x6 :: .int x7 :: .int x8 :: .int x9 :: [.int x10, .int x11, .int x12, .int x13, .int x14, .int x15, .ref h3, .ref h4, .ref h5, .ref h6, .int x16, .int x17, .int x18, .int x19, .int x20, .int x21, .int x22, .int x23, .ref h7, .int x24, .int x25, .int b168, .int x27, .ref h8, .ref h9, .int x28, .int x29, .long z0, .int x30, .int b169, .ref h10, .ref h11, .ref h12, .ref h13, .ref h14, .int x32, .int x33, .int x34, .int x35, .int x36, .int x37, .int x38, .int x39, .int x40, .ref h15, .ref h16, .int x41, .int x42, .int x43, .int x44, .int x45, .int x46, .int x47, .int x48, .ref h17, .int x49, .int x50, .int x51, .int x52, .int x53]))]) hP hD hS hA [0] (by decide) rfl
                        have hKc := hK.sub (tys' := []) [] rfl
                        refine va_calli (va_runV (As := [.int 1, .int u3_0]) (rest := []) ⟨hx, hb, hml, hown, hG⟩ (cX12_wrong_1 l dC dI h0 h1 h2 h3 h4 h5 h6 h7 h8 h9 h10 h11 h12 h13 h14 h15 h16 h17 H.size 1 u3_0 x0 x1 x2 x3 x4 x5 x6 x7 x8 x9 x10 x11 x12 x13 x14 x15 x16 x17 x18 x19 x20 x21 x22 x23 x24 x25 b168 x27 x28 x29 x30 b169 x32 x33 x34 x35 x36 x37 x38 x39 x40 x41 x42 x43 x44 x45 x46 x47 x48 x49 x50 x51 x52 x53 z0 ix15 ix16 ix21 ix22 ix23 ix24 ix25 ib168 ix27 ib169 ix32 ix33 ix34 ix35 ix36 ix41 ix42 ix46 ix47 ix49 ix53) (cwV 2 hG (gV wd_1731 wd_1733 wp_101 wd_17 wd_1734) rfl rfl rfl (by decide +kernel) ⟨Nat.le_of_ble_eq_true rfl, Nat.le_of_ble_eq_true rfl⟩) ⟨fun a U g mk q => by obtain ⟨q0, q1, qP, qK, qD⟩ := q; exact ⟨q0, q1, qP, va_K.moved (u := U) (U := U.calling g mk a) (Vm.Alike.refl U.vm) qK, qD⟩, va_recv hKc hPc (ci := 12) (q0 := 0) rfl rfl, fun U hU hW => ⟨rfl, by rw [hU], by rw [hU]; exact hPc, va_K.moved hW.alike hKc, hDc.weaken (fun _ _ _ _ => trivial)⟩⟩ rfl rfl hl.1 rfl (lv_room (Nat.le_of_ble_eq_true rfl)) dX12_readNumber_264 ⟨by decide, by decide⟩) hS (fun q _ h => hFc q h) hFc (fun r662 u663 t H1 locs ht hvm hw hB hz1 hk1 hS => ?_)
                        have hw : r662 = 0 ∧ True := hw
                        obtain ⟨er662, -⟩ := hw
                        obtain ⟨hP1, hK1, hD1⟩ := hB
                        rw [ht] at hP1
                        have hK1 := va_K.moved hvm.symm hK1
                        obtain ⟨hP, hD⟩ := nv_join (wf := [(h7, .inl (y0, 2600, .inl f0)), (h0, .inr (12, .int x0 :: .ref h1 :: .ref h2 :: .int x1 :: .int x2 :: .int x3 :: .int x4 :: .int x5 :: .int x6 :: .int x7 :: .int x8 :: .int x9 :: [.int x10, .int x11, .int x12, .int x13, .int x14, .int x15, .ref h3, .ref h4, .ref h5, .ref h6, .int x16, .int x17, .int x18, .int x19, .int x20, .int x21, .int x22, .int x23, .ref h7, .int x24, .int x25, .int b168, .int x27, .ref h8, .ref h9, .int 1, .int u3_0, .long z0, .int x30, .int b169, .ref h10, .ref h11, .ref h12, .ref h13, .ref h14, .int x32, .int x33, .int x34, .int x35, .int x36, .int x37, .int x38, .int x39, .int x40, .ref h15, .ref h16, .int x41, .int x42, .int x43, .int x44, .int x45, .int x46, .int x47, .int x48, .ref h17, .int x49, .int x50, .int x51, .int x52, .int x53]))]) hP hD [0] [1] rfl rfl (by decide) (by decide) hk1 hFc hP1 hD1 rfl
                        have hK := (hK.sub (tys' := [(y0, .byte)]) [0] rfl).app hK1
                        generalize H1 = H at hP hS ⊢
                        have hK : va_K (dC, dI) vwCl [(y0, .byte)] s := hK
                        clear hKc hPc hDc hFc hP1 hD1 hK1 hk1 hz1
                        subst er662
                        refine lv_if_eq (tgt := 274) hx hb dX12_readNumber_267 (by decide) (fun _ => ?_) (fun c => absurd (by decide) c)
                        refine lv_iconst (v := 0) hx hb dX12_readNumber_274 (by decide) ?_
                        have kc0 : (0 : Int32).toInt = 0 := by decide
                        have oh664 : x26.toInt + (0 : Int32).toInt ≤ b168.toInt := by omega
                        exact j636 0 1 u3_0 (iv_w (by decide : iv 0 0 0) (by decide) (by decide)) oh664 _ _ hK hP hD hS ls (lv_sub hl [] rfl)
                    refine lv_if_eq (tgt := 257) hx hb dX12_readNumber_250 (by decide) (fun c651 => ?_) (fun c651 => ?_)
                    · skip
                      have j665 : iv b36 0 0 := iv_eqc c651 (by decide)
                      refine lv_iconst (v := 5) hx hb dX12_readNumber_257 (by decide) ?_
                      exact j655 5 (iv_w (by decide : iv 5 5 5) (by decide) (by decide)) _ _ hK hP hD hS ls (lv_sub hl [3, 4] rfl)
                    · skip
                      have j666 : iv b36 1 1 := iv_neLo ib36 (by decide : iv 0 0 0) c651 (by decide)
                      refine lv_iconst (v := 4) hx hb dX12_readNumber_253 (by decide) ?_
                      refine lv_goto (tgt := 258) hx hb dX12_readNumber_254 (by decide) ?_
                      exact j655 4 (iv_w (by decide : iv 4 4 4) (by decide) (by decide)) _ _ hK hP hD hS ls (lv_sub hl [3, 4] rfl)
              · skip
                have j667 : iv r545 1 1 := iv_neLo ir545 (by decide : iv 0 0 0) c550 (by decide)
                refine lv_aload_n hx hb dX12_readNumber_117 rfl (lv_at hl 4 rfl) ?_
                obtain ⟨hPc, hDc, hFc⟩ := nv_sub3 (wc := [(h0, .inr (12, .int x0 :: .ref h1 :: .ref h2 :: .int x1 :: .int x2 :: .int x3 :: .int x4 :: .int x5 :: .int x6 :: .int x7 :: .int x8 :: .int x9 :: [.int x10, .int x11, .int x12, .int x13, .int x14, .int x15, .ref h3, .ref h4, .ref h5, .ref h6, .int x16, .int x17, .int x18, .int x19, .int x20, .int x21, .int x22, .int x23, .ref h7, .int x24, .int x25, .int b168, .int x27, .ref h8, .ref h9, .int x28, .int x29, .long z0, .int x30, .int b169, .ref h10, .ref h11, .ref h12, .ref h13, .ref h14, .int x32, .int x33, .int x34, .int x35, .int x36, .int x37, .int x38, .int x39, .int x40, .ref h15, .ref h16, .int x41, .int x42, .int x43, .int x44, .int x45, .int x46, .int x47, .int x48, .ref h17, .int x49, .int x50, .int x51, .int x52, .int x53])), (h7, .inl (y0, 2600, .inl f0))]) hP hD hS hA [0, 1] (by decide) rfl
                have hKc := hK.sub (tys' := [(y0, .byte)]) [0] rfl
                have oh668 : b168.toInt ≤ x27.toInt := by omega
                refine va_calli (va_runV (As := []) (rest := []) ⟨hx, hb, hml, hown, hG⟩ (cX12_peek__1 l dC dI h0 h1 h2 h3 h4 h5 h6 h7 h8 h9 h10 h11 h12 h13 h14 h15 h16 h17 y0 H.size x0 x1 x2 x3 x4 x5 x6 x7 x8 x9 x10 x11 x12 x13 x14 x15 x16 x17 x18 x19 x20 x21 x22 x23 x24 x25 b168 x27 x28 x29 x30 b169 x32 x33 x34 x35 x36 x37 x38 x39 x40 x41 x42 x43 x44 x45 x46 x47 x48 x49 x50 x51 x52 x53 z0 f0 ix15 ix16 ix21 ix22 ix23 ix24 ix25 ib168 ix27 ib169 ix32 ix33 ix34 ix35 ix36 ix41 ix42 ix46 ix47 ix49 ix53 if0 oh668) (cwV 0 hG (gV wd_1720 wd_1722 wp_99 wd_17 wd_1723) rfl rfl rfl (by decide +kernel) ⟨Nat.le_of_ble_eq_true rfl, Nat.le_of_ble_eq_true rfl⟩) ⟨fun a U g mk q => by obtain ⟨q0, q1, qP, qK, qD⟩ := q; exact ⟨q0, q1, qP, va_K.moved (u := U) (U := U.calling g mk a) (Vm.Alike.refl U.vm) qK, qD⟩, va_recv hKc hPc (ci := 12) (q0 := 0) rfl rfl, fun U hU hW => ⟨rfl, by rw [hU], by rw [hU]; exact hPc, va_K.moved hW.alike hKc, hDc.weaken (fun _ _ _ _ => trivial)⟩⟩ rfl rfl hl.1 rfl (lv_room (Nat.le_of_ble_eq_true rfl)) dX12_readNumber_118 ⟨by decide, by decide⟩) hS (fun q _ h => hFc q h) hFc (fun r669 u670 t H1 locs ht hvm hw hB hz1 hk1 hS => ?_)
                have hw : iv r669 (-1) 255 ∧ (256 * (b168.toInt + 1 - x27.toInt) ≤ 255 - r669.toInt) ∧ (r669.toInt = (pkf b168 x27 f0).toInt) ∧ True := hw
                obtain ⟨ir669, op671, op672, -⟩ := hw
                obtain ⟨hP1, hK1, hD1⟩ := hB
                rw [ht] at hP1
                have hK1 := va_K.moved hvm.symm hK1
                obtain ⟨hP, hD⟩ := nv_join (wf := [(h0, .inr (12, .int x0 :: .ref h1 :: .ref h2 :: .int x1 :: .int x2 :: .int x3 :: .int x4 :: .int x5 :: .int x6 :: .int x7 :: .int x8 :: .int x9 :: [.int x10, .int x11, .int x12, .int x13, .int x14, .int x15, .ref h3, .ref h4, .ref h5, .ref h6, .int x16, .int x17, .int x18, .int x19, .int x20, .int x21, .int x22, .int x23, .ref h7, .int x24, .int x25, .int b168, .int x27, .ref h8, .ref h9, .int x28, .int x29, .long z0, .int x30, .int b169, .ref h10, .ref h11, .ref h12, .ref h13, .ref h14, .int x32, .int x33, .int x34, .int x35, .int x36, .int x37, .int x38, .int x39, .int x40, .ref h15, .ref h16, .int x41, .int x42, .int x43, .int x44, .int x45, .int x46, .int x47, .int x48, .ref h17, .int x49, .int x50, .int x51, .int x52, .int x53])), (h7, .inl (y0, 2600, .inl f0))]) hP hD [0, 1] [] rfl rfl (by decide) (by decide) hk1 hFc hP1 hD1 rfl
                have hK := (hK.sub (tys' := []) [] rfl).app hK1
                generalize H1 = H at hP hS ⊢
                have hK : va_K (dC, dI) vwCl [(y0, .byte)] s := hK
                clear hKc hPc hDc hFc hP1 hD1 hK1 hk1 hz1
                refine lv_istore (lv' := [(5, .int r669), (4, .int b166), (3, .int b167), (2, .int b36), (1, .int u3_0), (0, .ref h0)]) hx hb dX12_readNumber_121 hl (by decide) rfl (fun ls hl => ?_)
                refine lv_iload hx hb dX12_readNumber_123 (lv_at hl 0 rfl) ?_
                obtain ⟨hPc, hDc, hFc⟩ := nv_sub3 (wc := []) hP hD hS hA [] (by decide) rfl
                have hKc := hK.sub (tys' := []) [] rfl
                refine va_calli (va_runS (As := [.int r669]) (rest := []) ⟨hx, hb, hml, hown, hG⟩ (cX12_isDigit_1 l dC dI H.size r669) (va_cwS 1 hG (gS wd_1735 wd_1736 wd_17 wd_1737) rfl rfl rfl (by decide +kernel) ⟨Nat.le_of_ble_eq_true rfl, Nat.le_of_ble_eq_true rfl⟩) ⟨fun a U g mk q => by obtain ⟨q0, q1, qP, qK, qD⟩ := q; exact ⟨q0, q1, qP, va_K.moved (u := U) (U := U.calling g mk a) (Vm.Alike.refl U.vm) qK, qD⟩, fun U hU hW => ⟨rfl, by rw [hU], by rw [hU]; exact hPc, va_K.moved hW.alike hKc, hDc.weaken (fun _ _ _ _ => trivial)⟩⟩ rfl rfl hl.1 rfl (lv_room (Nat.le_of_ble_eq_true rfl)) dX12_readNumber_125 ⟨by decide, by decide⟩) hS (fun q _ h => hFc q h) hFc (fun r673 u674 t H1 locs ht hvm hw hB hz1 hk1 hS => ?_)
                have hw : iv r673 0 1 ∧ (48 * r673.toInt ≤ r669.toInt + 2147483648 * (1 - r673.toInt)) ∧ (r669.toInt ≤ 57 * r673.toInt + 2147483647 * (1 - r673.toInt)) ∧ (r673.toInt = 1 ∨ r669.toInt < 48 ∨ 57 < r669.toInt) ∧ True := hw
                obtain ⟨ir673, op675, op676, op677, -⟩ := hw
                obtain ⟨hP1, hK1, hD1⟩ := hB
                rw [ht] at hP1
                have hK1 := va_K.moved hvm.symm hK1
                obtain ⟨hP, hD⟩ := nv_join (wf := [(h0, .inr (12, .int x0 :: .ref h1 :: .ref h2 :: .int x1 :: .int x2 :: .int x3 :: .int x4 :: .int x5 :: .int x6 :: .int x7 :: .int x8 :: .int x9 :: [.int x10, .int x11, .int x12, .int x13, .int x14, .int x15, .ref h3, .ref h4, .ref h5, .ref h6, .int x16, .int x17, .int x18, .int x19, .int x20, .int x21, .int x22, .int x23, .ref h7, .int x24, .int x25, .int b168, .int x27, .ref h8, .ref h9, .int x28, .int x29, .long z0, .int x30, .int b169, .ref h10, .ref h11, .ref h12, .ref h13, .ref h14, .int x32, .int x33, .int x34, .int x35, .int x36, .int x37, .int x38, .int x39, .int x40, .ref h15, .ref h16, .int x41, .int x42, .int x43, .int x44, .int x45, .int x46, .int x47, .int x48, .ref h17, .int x49, .int x50, .int x51, .int x52, .int x53])), (h7, .inl (y0, 2600, .inl f0))]) hP hD [] [0, 1] rfl rfl (by decide) (by decide) hk1 hFc hP1 hD1 rfl
                have hK := (hK.sub (tys' := [(y0, .byte)]) [0] rfl).app hK1
                generalize H1 = H at hP hS ⊢
                have hK : va_K (dC, dI) vwCl [(y0, .byte)] s := hK
                clear hKc hPc hDc hFc hP1 hD1 hK1 hk1 hz1
                refine jcut (a := ∀ (b686 : Int32) (ib686 : iv b686 0 207) (H : Heap) (locs : List Loc) (hK : va_K (dC, dI) vwCl [(y0, .byte)] s) (hP : va_P (dC, dI) vwCl [(h0, .inr (12, .int x0 :: .ref h1 :: .ref h2 :: .int x1 :: .int x2 :: .int x3 :: .int x4 :: .int x5 :: .int x6 :: .int x7 :: .int x8 :: .int x9 :: [.int x10, .int x11, .int x12, .int x13, .int x14, .int x15, .ref h3, .ref h4, .ref h5, .ref h6, .int x16, .int x17, .int x18, .int x19, .int x20, .int x21, .int x22, .int x23, .ref h7, .int x24, .int x25, .int b168, .int x27, .ref h8, .ref h9, .int x28, .int x29, .long z0, .int x30, .int b169, .ref h10, .ref h11, .ref h12, .ref h13, .ref h14, .int x32, .int x33, .int x34, .int x35, .int x36, .int x37, .int x38, .int x39, .int x40, .ref h15, .ref h16, .int x41, .int x42, .int x43, .int x44, .int x45, .int x46, .int x47, .int x48, .ref h17, .int x49, .int x50, .int x51, .int x52, .int x53])), (h7, .inl (y0, 2600, .inl f0))] H) (hD : va_D A [(h0, .inr (12, .int x0 :: .ref h1 :: .ref h2 :: .int x1 :: .int x2 :: .int x3 :: .int x4 :: .int x5 :: .int x6 :: .int x7 :: .int x8 :: .int x9 :: [.int x10, .int x11, .int x12, .int x13, .int x14, .int x15, .ref h3, .ref h4, .ref h5, .ref h6, .int x16, .int x17, .int x18, .int x19, .int x20, .int x21, .int x22, .int x23, .ref h7, .int x24, .int x25, .int b168, .int x27, .ref h8, .ref h9, .int x28, .int x29, .long z0, .int x30, .int b169, .ref h10, .ref h11, .ref h12, .ref h13, .ref h14, .int x32, .int x33, .int x34, .int x35, .int x36, .int x37, .int x38, .int x39, .int x40, .ref h15, .ref h16, .int x41, .int x42, .int x43, .int x44, .int x45, .int x46, .int x47, .int x48, .ref h17, .int x49, .int x50, .int x51, .int x52, .int x53])), (h7, .inl (y0, 2600, .inl f0))]) (hS : va_S A s.heap H locs) (ls : Array Slot) (hl : lv_has ls 7 [(4, .int b166), (3, .int b167), (2, .int b36), (1, .int u3_0), (0, .ref h0)]), W p l e (headSpec (Cond.code yX12_readNumber cX12_readNumber 7 (some .boolean) :: lw_G) ({ frames := 2, cells := 0, slots := 0, locals := 40 })).room s m ar below meth c H locs 0 0 Q (F0 m 156 ls [.int b686])) ?_ (fun j687 => ?_)
                · skip
                  intro b686 ib686 H locs hK hP hD hS ls hl
                  refine lv_istore (lv' := [(6, .int b686), (4, .int b166), (3, .int b167), (2, .int b36), (1, .int u3_0), (0, .ref h0)]) hx hb dX12_readNumber_156 hl (by decide) rfl (fun ls hl => ?_)
                  refine lv_iload hx hb dX12_readNumber_158 (lv_at hl 1 rfl) ?_
                  refine jcut (a := ∀ (b700 : Int32) (ib700 : iv b700 0 1) (o701 : b686.toInt + 192 * b700.toInt ≤ 207) (H : Heap) (locs : List Loc) (hK : va_K (dC, dI) vwCl [(y0, .byte)] s) (hP : va_P (dC, dI) vwCl [(h0, .inr (12, .int x0 :: .ref h1 :: .ref h2 :: .int x1 :: .int x2 :: .int x3 :: .int x4 :: .int x5 :: .int x6 :: .int x7 :: .int x8 :: .int x9 :: [.int x10, .int x11, .int x12, .int x13, .int x14, .int x15, .ref h3, .ref h4, .ref h5, .ref h6, .int x16, .int x17, .int x18, .int x19, .int x20, .int x21, .int x22, .int x23, .ref h7, .int x24, .int x25, .int b168, .int x27, .ref h8, .ref h9, .int x28, .int x29, .long z0, .int x30, .int b169, .ref h10, .ref h11, .ref h12, .ref h13, .ref h14, .int x32, .int x33, .int x34, .int x35, .int x36, .int x37, .int x38, .int x39, .int x40, .ref h15, .ref h16, .int x41, .int x42, .int x43, .int x44, .int x45, .int x46, .int x47, .int x48, .ref h17, .int x49, .int x50, .int x51, .int x52, .int x53])), (h7, .inl (y0, 2600, .inl f0))] H) (hD : va_D A [(h0, .inr (12, .int x0 :: .ref h1 :: .ref h2 :: .int x1 :: .int x2 :: .int x3 :: .int x4 :: .int x5 :: .int x6 :: .int x7 :: .int x8 :: .int x9 :: [.int x10, .int x11, .int x12, .int x13, .int x14, .int x15, .ref h3, .ref h4, .ref h5, .ref h6, .int x16, .int x17, .int x18, .int x19, .int x20, .int x21, .int x22, .int x23, .ref h7, .int x24, .int x25, .int b168, .int x27, .ref h8, .ref h9, .int x28, .int x29, .long z0, .int x30, .int b169, .ref h10, .ref h11, .ref h12, .ref h13, .ref h14, .int x32, .int x33, .int x34, .int x35, .int x36, .int x37, .int x38, .int x39, .int x40, .ref h15, .ref h16, .int x41, .int x42, .int x43, .int x44, .int x45, .int x46, .int x47, .int x48, .ref h17, .int x49, .int x50, .int x51, .int x52, .int x53])), (h7, .inl (y0, 2600, .inl f0))]) (hS : va_S A s.heap H locs) (ls : Array Slot) (hl : lv_has ls 7 [(6, .int b686), (3, .int b167), (2, .int b36), (1, .int u3_0), (0, .ref h0)]), W p l e (headSpec (Cond.code yX12_readNumber cX12_readNumber 7 (some .boolean) :: lw_G) ({ frames := 2, cells := 0, slots := 0, locals := 40 })).room s m ar below meth c H locs 0 0 Q (F0 m 184 ls [.int b700])) ?_ (fun j702 => ?_)
                  · skip
                    intro b700 ib700 o701 H locs hK hP hD hS ls hl
                    refine lv_istore (lv' := [(4, .int b700), (6, .int b686), (3, .int b167), (2, .int b36), (1, .int u3_0), (0, .ref h0)]) hx hb dX12_readNumber_184 hl (by decide) rfl (fun ls hl => ?_)
                    refine lv_iload_n hx hb dX12_readNumber_186 rfl (lv_at hl 2 rfl) ?_
                    refine lv_iconst (v := 5) hx hb dX12_readNumber_187 (by decide) ?_
                    refine jcut (a := ∀ (b722 : Int32) (ib722 : iv b722 0 1048575) (o723 : NB (b167.toInt + 1) b722.toInt) (H : Heap) (locs : List Loc) (hK : va_K (dC, dI) vwCl [(y0, .byte)] s) (hP : va_P (dC, dI) vwCl [(h0, .inr (12, .int x0 :: .ref h1 :: .ref h2 :: .int x1 :: .int x2 :: .int x3 :: .int x4 :: .int x5 :: .int x6 :: .int x7 :: .int x8 :: .int x9 :: [.int x10, .int x11, .int x12, .int x13, .int x14, .int x15, .ref h3, .ref h4, .ref h5, .ref h6, .int x16, .int x17, .int x18, .int x19, .int x20, .int x21, .int x22, .int x23, .ref h7, .int x24, .int x25, .int b168, .int x27, .ref h8, .ref h9, .int x28, .int x29, .long z0, .int x30, .int b722, .ref h10, .ref h11, .ref h12, .ref h13, .ref h14, .int x32, .int x33, .int x34, .int x35, .int x36, .int x37, .int x38, .int x39, .int x40, .ref h15, .ref h16, .int x41, .int x42, .int x43, .int x44, .int x45, .int x46, .int x47, .int x48, .ref h17, .int x49, .int x50, .int x51, .int x52, .int x53])), (h7, .inl (y0, 2600, .inl f0))] H) (hD : va_D A [(h0, .inr (12, .int x0 :: .ref h1 :: .ref h2 :: .int x1 :: .int x2 :: .int x3 :: .int x4 :: .int x5 :: .int x6 :: .int x7 :: .int x8 :: .int x9 :: [.int x10, .int x11, .int x12, .int x13, .int x14, .int x15, .ref h3, .ref h4, .ref h5, .ref h6, .int x16, .int x17, .int x18, .int x19, .int x20, .int x21, .int x22, .int x23, .ref h7, .int x24, .int x25, .int b168, .int x27, .ref h8, .ref h9, .int x28, .int x29, .long z0, .int x30, .int b722, .ref h10, .ref h11, .ref h12, .ref h13, .ref h14, .int x32, .int x33, .int x34, .int x35, .int x36, .int x37, .int x38, .int x39, .int x40, .ref h15, .ref h16, .int x41, .int x42, .int x43, .int x44, .int x45, .int x46, .int x47, .int x48, .ref h17, .int x49, .int x50, .int x51, .int x52, .int x53])), (h7, .inl (y0, 2600, .inl f0))]) (hS : va_S A s.heap H locs) (ls : Array Slot) (hl : lv_has ls 7 [(4, .int b700), (3, .int b167), (2, .int b36), (1, .int u3_0), (0, .ref h0)]), W p l e (headSpec (Cond.code yX12_readNumber cX12_readNumber 7 (some .boolean) :: lw_G) ({ frames := 2, cells := 0, slots := 0, locals := 40 })).room s m ar below meth c H locs 0 0 Q (F0 m 223 ls [])) ?_ (fun j724 => ?_)
                    · skip
                      intro b722 ib722 o723 H locs hK hP hD hS ls hl
                      obtain ⟨v725, ev725⟩ : ∃ y : Int32, y = b167 + Int32.ofInt 1 := ⟨_, rfl⟩
                      have iv725 : iv v725 1 2501 := iv_eq ev725 (iv_add ib167 (by decide : iv (Int32.ofInt 1) 1 1) (by decide) (by decide))
                      have tv725 : v725.toInt = b167.toInt + 1 := iv_addT ev725 ib167 (by decide) (by decide) (by decide)
                      refine lv_iinc (v := v725) (lv' := [(3, .int v725), (4, .int b700), (2, .int b36), (1, .int u3_0), (0, .ref h0)]) hx hb dX12_readNumber_223 hl (k := 1) rfl ev725.symm (by decide) rfl (fun ls hl => ?_)
                      refine lv_aload_n hx hb dX12_readNumber_226 rfl (lv_at hl 4 rfl) ?_
                      refine lv_dup hx hb dX12_readNumber_227 rfl ?_
                      refine va_get (D := (dC, dI)) (ci := 12) (v := .int b168) (C := RX12) (T := TX12) (N := 72) hx hb hG inGX12 hown hK hP 0 rfl rfl 33 (by decide) (hG _ wd_1340) (fun _ h9 => h9) rfl dX12_readNumber_228 ?_
                      refine lv_iconst (v := 1) hx hb dX12_readNumber_231 (by decide) ?_
                      refine lv_iadd hx hb dX12_readNumber_232 ?_
                      refine lv_topi (fun v726 ev726 => ?_)
                      have iv726 : iv v726 1 2501 := iv_eq ev726 (iv_add ib168 (by decide : iv 1 1 1) (by decide) (by decide))
                      have tv726 : v726.toInt = b168.toInt + 1 := iv_addT ev726 ib168 (by decide) (by decide) (by decide)
                      have j727 : iv v726 1 2500 := ⟨by omega, by omega⟩
                      refine va_put (D := (dC, dI)) (ci := 12) (v := .int v726) (ty := .int) (C := RX12) (T := TX12) (N := 72) hx hb hG inGX12 tyX12 tyX12_ok nmX12 hown hK hP hD hS 0 rfl rfl 33 (by decide) (hG _ wd_1340) (fun _ h9 => h9) rfl (by decide +kernel) rfl rfl (Nat.le_of_ble_eq_true rfl) dX12_readNumber_233 (fun H locs hP hD hS => ?_)
                      obtain ⟨hP, hD⟩ := nv_eq (ws' := [(h0, .inr (12, .int x0 :: .ref h1 :: .ref h2 :: .int x1 :: .int x2 :: .int x3 :: .int x4 :: .int x5 :: .int x6 :: .int x7 :: .int x8 :: .int x9 :: [.int x10, .int x11, .int x12, .int x13, .int x14, .int x15, .ref h3, .ref h4, .ref h5, .ref h6, .int x16, .int x17, .int x18, .int x19, .int x20, .int x21, .int x22, .int x23, .ref h7, .int x24, .int x25, .int v726, .int x27, .ref h8, .ref h9, .int x28, .int x29, .long z0, .int x30, .int b722, .ref h10, .ref h11, .ref h12, .ref h13, .ref h14, .int x32, .int x33, .int x34, .int x35, .int x36, .int x37, .int x38, .int x39, .int x40, .ref h15, .ref h16, .int x41, .int x42, .int x43, .int x44, .int x45, .int x46, .int x47, .int x48, .ref h17, .int x49, .int x50, .int x51, .int x52, .int x53])), (h7, .inl (y0, 2600, .inl f0))]) hP hD rfl
                      refine lv_goto (tgt := 97) hx hb dX12_readNumber_236 (by decide) ?_
                      have j728 : iv v725 0 2500 := ⟨by omega, by omega⟩
                      have oh729 : x26.toInt ≤ v726.toInt := by omega
                      have oh730 : v726.toInt ≤ x27.toInt := by omega
                      have oh731 : v725.toInt + x26.toInt ≤ v726.toInt := by omega
                      have oh732 : NB v725.toInt b722.toInt := by first | (exact NB_0 (by omega) (by omega)) | (exact NB_ge (by omega)) | (exact NB_step o723 (by omega) (by omega) (by omega)) | (exact NB_step o474 (by omega) (by omega) (by omega)) | (exact NB_step o173 (by omega) (by omega) (by omega)) | (exact NB_to o723 (by omega) (by omega)) | (exact NB_to o474 (by omega) (by omega)) | (exact NB_to o173 (by omega) (by omega))
                      exact ih b700 v725 v726 b722 ib700 j728 (iv_w j727 (by decide) (by decide)) ib722 oh729 oh730 oh731 oh732 (by omega) _ _ hK hP hD hS ls (lv_sub hl [1, 0, 2, 3, 4] rfl)
                    refine lv_icmp_ge (tgt := 223) hx hb dX12_readNumber_188 (by decide) (fun c703 => ?_) (fun c703 => ?_)
                    · skip
                      have j733 : iv b167 5 2500 := iv_leR (by decide : iv 5 5 5) ib167 c703 (by decide)
                      have oh734 : NB (b167.toInt + 1) b169.toInt := by first | (exact NB_0 (by omega) (by omega)) | (exact NB_ge (by omega)) | (exact NB_step o723 (by omega) (by omega) (by omega)) | (exact NB_step o474 (by omega) (by omega) (by omega)) | (exact NB_step o173 (by omega) (by omega) (by omega)) | (exact NB_to o723 (by omega) (by omega)) | (exact NB_to o474 (by omega) (by omega)) | (exact NB_to o173 (by omega) (by omega))
                      exact j724 b169 ib169 oh734 _ _ hK hP hD hS ls (lv_sub hl [0, 2, 3, 4, 5] rfl)
                    · skip
                      have j735 : iv b167 0 4 := iv_nleR (by decide : iv 5 5 5) ib167 c703 (by decide)
                      have j736 : iv b169 0 65535 := ⟨by omega, (by first | (exact NB_le o723 (by omega)) | (exact NB_le o474 (by omega)) | (exact NB_le o173 (by omega)))⟩
                      refine lv_aload_n hx hb dX12_readNumber_191 rfl (lv_at hl 5 rfl) ?_
                      refine lv_aload_n hx hb dX12_readNumber_192 rfl (lv_at hl 5 rfl) ?_
                      refine va_get (D := (dC, dI)) (ci := 12) (v := .int b169) (C := RX12) (T := TX12) (N := 72) hx hb hG inGX12 hown hK hP 0 rfl rfl 41 (by decide) (hG _ wd_1348) (fun _ h9 => h9) rfl dX12_readNumber_193 ?_
                      refine lv_iload_n hx hb dX12_readNumber_196 rfl (lv_at hl 3 rfl) ?_
                      refine lv_if_eq (tgt := 205) hx hb dX12_readNumber_197 (by decide) (fun c737 => ?_) (fun c737 => ?_)
                      · skip
                        have j738 : iv b36 0 0 := iv_eqc c737 (by decide)
                        refine lv_bipush (v := 10) hx hb dX12_readNumber_205 (by decide) ?_
                        refine lv_imul hx hb dX12_readNumber_207 ?_
                        refine lv_topi (fun v739 ev739 => ?_)
                        have iv739 : iv v739 0 655350 := iv_eq ev739 (iv_mul j736 (by decide : iv 10 10 10) (by decide) (by decide) (by decide))
                        have tv739 : v739.toInt = b169.toInt * 10 := iv_mulT ev739 j736 (by decide) (by decide) (by decide) (by decide)
                        refine lv_iload hx hb dX12_readNumber_208 (lv_at hl 0 rfl) ?_
                        refine jcut (a := ∀ (b743 : Int32) (ib743 : iv b743 0 15) (H : Heap) (locs : List Loc) (hK : va_K (dC, dI) vwCl [(y0, .byte)] s) (hP : va_P (dC, dI) vwCl [(h0, .inr (12, .int x0 :: .ref h1 :: .ref h2 :: .int x1 :: .int x2 :: .int x3 :: .int x4 :: .int x5 :: .int x6 :: .int x7 :: .int x8 :: .int x9 :: [.int x10, .int x11, .int x12, .int x13, .int x14, .int x15, .ref h3, .ref h4, .ref h5, .ref h6, .int x16, .int x17, .int x18, .int x19, .int x20, .int x21, .int x22, .int x23, .ref h7, .int x24, .int x25, .int b168, .int x27, .ref h8, .ref h9, .int x28, .int x29, .long z0, .int x30, .int b169, .ref h10, .ref h11, .ref h12, .ref h13, .ref h14, .int x32, .int x33, .int x34, .int x35, .int x36, .int x37, .int x38, .int x39, .int x40, .ref h15, .ref h16, .int x41, .int x42, .int x43, .int x44, .int x45, .int x46, .int x47, .int x48, .ref h17, .int x49, .int x50, .int x51, .int x52, .int x53])), (h7, .inl (y0, 2600, .inl f0))] H) (hD : va_D A [(h0, .inr (12, .int x0 :: .ref h1 :: .ref h2 :: .int x1 :: .int x2 :: .int x3 :: .int x4 :: .int x5 :: .int x6 :: .int x7 :: .int x8 :: .int x9 :: [.int x10, .int x11, .int x12, .int x13, .int x14, .int x15, .ref h3, .ref h4, .ref h5, .ref h6, .int x16, .int x17, .int x18, .int x19, .int x20, .int x21, .int x22, .int x23, .ref h7, .int x24, .int x25, .int b168, .int x27, .ref h8, .ref h9, .int x28, .int x29, .long z0, .int x30, .int b169, .ref h10, .ref h11, .ref h12, .ref h13, .ref h14, .int x32, .int x33, .int x34, .int x35, .int x36, .int x37, .int x38, .int x39, .int x40, .ref h15, .ref h16, .int x41, .int x42, .int x43, .int x44, .int x45, .int x46, .int x47, .int x48, .ref h17, .int x49, .int x50, .int x51, .int x52, .int x53])), (h7, .inl (y0, 2600, .inl f0))]) (hS : va_S A s.heap H locs) (ls : Array Slot) (hl : lv_has ls 7 [(4, .int b700), (3, .int b167), (2, .int b36), (1, .int u3_0), (0, .ref h0)]), W p l e (headSpec (Cond.code yX12_readNumber cX12_readNumber 7 (some .boolean) :: lw_G) ({ frames := 2, cells := 0, slots := 0, locals := 40 })).room s m ar below meth c H locs 0 0 Q (F0 m 219 ls [.int b743, .int v739, .ref h0])) ?_ (fun j744 => ?_)
                        · skip
                          intro b743 ib743 H locs hK hP hD hS ls hl
                          refine lv_iadd hx hb dX12_readNumber_219 ?_
                          refine lv_topi (fun v745 ev745 => ?_)
                          have iv745 : iv v745 0 655365 := iv_eq ev745 (iv_add iv739 ib743 (by decide) (by decide))
                          have tv745 : v745.toInt = v739.toInt + b743.toInt := iv_add2T ev745 iv739 ib743 (by decide) (by decide)
                          refine va_put (D := (dC, dI)) (ci := 12) (v := .int v745) (ty := .int) (C := RX12) (T := TX12) (N := 72) hx hb hG inGX12 tyX12 tyX12_ok nmX12 hown hK hP hD hS 0 rfl rfl 41 (by decide) (hG _ wd_1348) (fun _ h9 => h9) rfl (by decide +kernel) rfl rfl (Nat.le_of_ble_eq_true rfl) dX12_readNumber_220 (fun H locs hP hD hS => ?_)
                          obtain ⟨hP, hD⟩ := nv_eq (ws' := [(h0, .inr (12, .int x0 :: .ref h1 :: .ref h2 :: .int x1 :: .int x2 :: .int x3 :: .int x4 :: .int x5 :: .int x6 :: .int x7 :: .int x8 :: .int x9 :: [.int x10, .int x11, .int x12, .int x13, .int x14, .int x15, .ref h3, .ref h4, .ref h5, .ref h6, .int x16, .int x17, .int x18, .int x19, .int x20, .int x21, .int x22, .int x23, .ref h7, .int x24, .int x25, .int b168, .int x27, .ref h8, .ref h9, .int x28, .int x29, .long z0, .int x30, .int v745, .ref h10, .ref h11, .ref h12, .ref h13, .ref h14, .int x32, .int x33, .int x34, .int x35, .int x36, .int x37, .int x38, .int x39, .int x40, .ref h15, .ref h16, .int x41, .int x42, .int x43, .int x44, .int x45, .int x46, .int x47, .int x48, .ref h17, .int x49, .int x50, .int x51, .int x52, .int x53])), (h7, .inl (y0, 2600, .inl f0))]) hP hD rfl
                          have oh746 : NB (b167.toInt + 1) v745.toInt := by first | (exact NB_0 (by omega) (by omega)) | (exact NB_ge (by omega)) | (exact NB_step o723 (by omega) (by omega) (by omega)) | (exact NB_step o474 (by omega) (by omega) (by omega)) | (exact NB_step o173 (by omega) (by omega) (by omega)) | (exact NB_to o723 (by omega) (by omega)) | (exact NB_to o474 (by omega) (by omega)) | (exact NB_to o173 (by omega) (by omega))
                          exact j724 v745 (iv_w iv745 (by decide) (by decide)) oh746 _ _ hK hP hD hS ls hl
                        refine lv_if_eq (tgt := 218) hx hb dX12_readNumber_210 (by decide) (fun c740 => ?_) (fun c740 => ?_)
                        · skip
                          have j747 : iv b700 0 0 := iv_eqc c740 (by decide)
                          refine lv_iconst (v := 0) hx hb dX12_readNumber_218 (by decide) ?_
                          exact j744 0 (iv_w (by decide : iv 0 0 0) (by decide) (by decide)) _ _ hK hP hD hS ls (lv_sub hl [0, 2, 3, 4, 5] rfl)
                        · skip
                          have j748 : iv b700 1 1 := iv_neLo ib700 (by decide : iv 0 0 0) c740 (by decide)
                          refine lv_iload hx hb dX12_readNumber_213 (lv_at hl 1 rfl) ?_
                          refine lv_goto (tgt := 219) hx hb dX12_readNumber_215 (by decide) ?_
                          have j749 : iv b686 0 15 := ⟨by omega, by omega⟩
                          exact j744 b686 j749 _ _ hK hP hD hS ls (lv_sub hl [0, 2, 3, 4, 5] rfl)
                      · skip
                        have j750 : iv b36 1 1 := iv_neLo ib36 (by decide : iv 0 0 0) c737 (by decide)
                        refine lv_bipush (v := 16) hx hb dX12_readNumber_200 (by decide) ?_
                        refine lv_goto (tgt := 207) hx hb dX12_readNumber_202 (by decide) ?_
                        refine lv_imul hx hb dX12_readNumber_207 ?_
                        refine lv_topi (fun v751 ev751 => ?_)
                        have iv751 : iv v751 0 1048560 := iv_eq ev751 (iv_mul j736 (by decide : iv 16 16 16) (by decide) (by decide) (by decide))
                        have tv751 : v751.toInt = b169.toInt * 16 := iv_mulT ev751 j736 (by decide) (by decide) (by decide) (by decide)
                        refine lv_iload hx hb dX12_readNumber_208 (lv_at hl 0 rfl) ?_
                        refine jcut (a := ∀ (b755 : Int32) (ib755 : iv b755 0 15) (H : Heap) (locs : List Loc) (hK : va_K (dC, dI) vwCl [(y0, .byte)] s) (hP : va_P (dC, dI) vwCl [(h0, .inr (12, .int x0 :: .ref h1 :: .ref h2 :: .int x1 :: .int x2 :: .int x3 :: .int x4 :: .int x5 :: .int x6 :: .int x7 :: .int x8 :: .int x9 :: [.int x10, .int x11, .int x12, .int x13, .int x14, .int x15, .ref h3, .ref h4, .ref h5, .ref h6, .int x16, .int x17, .int x18, .int x19, .int x20, .int x21, .int x22, .int x23, .ref h7, .int x24, .int x25, .int b168, .int x27, .ref h8, .ref h9, .int x28, .int x29, .long z0, .int x30, .int b169, .ref h10, .ref h11, .ref h12, .ref h13, .ref h14, .int x32, .int x33, .int x34, .int x35, .int x36, .int x37, .int x38, .int x39, .int x40, .ref h15, .ref h16, .int x41, .int x42, .int x43, .int x44, .int x45, .int x46, .int x47, .int x48, .ref h17, .int x49, .int x50, .int x51, .int x52, .int x53])), (h7, .inl (y0, 2600, .inl f0))] H) (hD : va_D A [(h0, .inr (12, .int x0 :: .ref h1 :: .ref h2 :: .int x1 :: .int x2 :: .int x3 :: .int x4 :: .int x5 :: .int x6 :: .int x7 :: .int x8 :: .int x9 :: [.int x10, .int x11, .int x12, .int x13, .int x14, .int x15, .ref h3, .ref h4, .ref h5, .ref h6, .int x16, .int x17, .int x18, .int x19, .int x20, .int x21, .int x22, .int x23, .ref h7, .int x24, .int x25, .int b168, .int x27, .ref h8, .ref h9, .int x28, .int x29, .long z0, .int x30, .int b169, .ref h10, .ref h11, .ref h12, .ref h13, .ref h14, .int x32, .int x33, .int x34, .int x35, .int x36, .int x37, .int x38, .int x39, .int x40, .ref h15, .ref h16, .int x41, .int x42, .int x43, .int x44, .int x45, .int x46, .int x47, .int x48, .ref h17, .int x49, .int x50, .int x51, .int x52, .int x53])), (h7, .inl (y0, 2600, .inl f0))]) (hS : va_S A s.heap H locs) (ls : Array Slot) (hl : lv_has ls 7 [(4, .int b700), (3, .int b167), (2, .int b36), (1, .int u3_0), (0, .ref h0)]), W p l e (headSpec (Cond.code yX12_readNumber cX12_readNumber 7 (some .boolean) :: lw_G) ({ frames := 2, cells := 0, slots := 0, locals := 40 })).room s m ar below meth c H locs 0 0 Q (F0 m 219 ls [.int b755, .int v751, .ref h0])) ?_ (fun j756 => ?_)
                        · skip
                          intro b755 ib755 H locs hK hP hD hS ls hl
                          refine lv_iadd hx hb dX12_readNumber_219 ?_
                          refine lv_topi (fun v757 ev757 => ?_)
                          have iv757 : iv v757 0 1048575 := iv_eq ev757 (iv_add iv751 ib755 (by decide) (by decide))
                          have tv757 : v757.toInt = v751.toInt + b755.toInt := iv_add2T ev757 iv751 ib755 (by decide) (by decide)
                          refine va_put (D := (dC, dI)) (ci := 12) (v := .int v757) (ty := .int) (C := RX12) (T := TX12) (N := 72) hx hb hG inGX12 tyX12 tyX12_ok nmX12 hown hK hP hD hS 0 rfl rfl 41 (by decide) (hG _ wd_1348) (fun _ h9 => h9) rfl (by decide +kernel) rfl rfl (Nat.le_of_ble_eq_true rfl) dX12_readNumber_220 (fun H locs hP hD hS => ?_)
                          obtain ⟨hP, hD⟩ := nv_eq (ws' := [(h0, .inr (12, .int x0 :: .ref h1 :: .ref h2 :: .int x1 :: .int x2 :: .int x3 :: .int x4 :: .int x5 :: .int x6 :: .int x7 :: .int x8 :: .int x9 :: [.int x10, .int x11, .int x12, .int x13, .int x14, .int x15, .ref h3, .ref h4, .ref h5, .ref h6, .int x16, .int x17, .int x18, .int x19, .int x20, .int x21, .int x22, .int x23, .ref h7, .int x24, .int x25, .int b168, .int x27, .ref h8, .ref h9, .int x28, .int x29, .long z0, .int x30, .int v757, .ref h10, .ref h11, .ref h12, .ref h13, .ref h14, .int x32, .int x33, .int x34, .int x35, .int x36, .int x37, .int x38, .int x39, .int x40, .ref h15, .ref h16, .int x41, .int x42, .int x43, .int x44, .int x45, .int x46, .int x47, .int x48, .ref h17, .int x49, .int x50, .int x51, .int x52, .int x53])), (h7, .inl (y0, 2600, .inl f0))]) hP hD rfl
                          have oh758 : NB (b167.toInt + 1) v757.toInt := by first | (exact NB_0 (by omega) (by omega)) | (exact NB_ge (by omega)) | (exact NB_step o723 (by omega) (by omega) (by omega)) | (exact NB_step o474 (by omega) (by omega) (by omega)) | (exact NB_step o173 (by omega) (by omega) (by omega)) | (exact NB_to o723 (by omega) (by omega)) | (exact NB_to o474 (by omega) (by omega)) | (exact NB_to o173 (by omega) (by omega))
                          exact j724 v757 iv757 oh758 _ _ hK hP hD hS ls hl
                        refine lv_if_eq (tgt := 218) hx hb dX12_readNumber_210 (by decide) (fun c752 => ?_) (fun c752 => ?_)
                        · skip
                          have j759 : iv b700 0 0 := iv_eqc c752 (by decide)
                          refine lv_iconst (v := 0) hx hb dX12_readNumber_218 (by decide) ?_
                          exact j756 0 (iv_w (by decide : iv 0 0 0) (by decide) (by decide)) _ _ hK hP hD hS ls (lv_sub hl [0, 2, 3, 4, 5] rfl)
                        · skip
                          have j760 : iv b700 1 1 := iv_neLo ib700 (by decide : iv 0 0 0) c752 (by decide)
                          refine lv_iload hx hb dX12_readNumber_213 (lv_at hl 1 rfl) ?_
                          refine lv_goto (tgt := 219) hx hb dX12_readNumber_215 (by decide) ?_
                          have j761 : iv b686 0 15 := ⟨by omega, by omega⟩
                          exact j756 b686 j761 _ _ hK hP hD hS ls (lv_sub hl [0, 2, 3, 4, 5] rfl)
                  refine lv_if_eq (tgt := 183) hx hb dX12_readNumber_160 (by decide) (fun c688 => ?_) (fun c688 => ?_)
                  · skip
                    have j762 : iv b166 0 0 := iv_eqc c688 (by decide)
                    refine lv_iconst (v := 0) hx hb dX12_readNumber_183 (by decide) ?_
                    have kc0 : (0 : Int32).toInt = 0 := by decide
                    have oh763 : b686.toInt + 192 * (0 : Int32).toInt ≤ 207 := by omega
                    exact j702 0 (iv_w (by decide : iv 0 0 0) (by decide) (by decide)) oh763 _ _ hK hP hD hS ls (lv_sub hl [0, 2, 3, 4, 5] rfl)
                  · skip
                    have j764 : iv b166 1 1 := iv_neLo ib166 (by decide : iv 0 0 0) c688 (by decide)
                    refine lv_iload hx hb dX12_readNumber_163 (lv_at hl 0 rfl) ?_
                    refine lv_iload_n hx hb dX12_readNumber_165 rfl (lv_at hl 3 rfl) ?_
                    refine jcut (a := ∀ (b768 : Int32) (ib768 : iv b768 10 16) (H : Heap) (locs : List Loc) (hK : va_K (dC, dI) vwCl [(y0, .byte)] s) (hP : va_P (dC, dI) vwCl [(h0, .inr (12, .int x0 :: .ref h1 :: .ref h2 :: .int x1 :: .int x2 :: .int x3 :: .int x4 :: .int x5 :: .int x6 :: .int x7 :: .int x8 :: .int x9 :: [.int x10, .int x11, .int x12, .int x13, .int x14, .int x15, .ref h3, .ref h4, .ref h5, .ref h6, .int x16, .int x17, .int x18, .int x19, .int x20, .int x21, .int x22, .int x23, .ref h7, .int x24, .int x25, .int b168, .int x27, .ref h8, .ref h9, .int x28, .int x29, .long z0, .int x30, .int b169, .ref h10, .ref h11, .ref h12, .ref h13, .ref h14, .int x32, .int x33, .int x34, .int x35, .int x36, .int x37, .int x38, .int x39, .int x40, .ref h15, .ref h16, .int x41, .int x42, .int x43, .int x44, .int x45, .int x46, .int x47, .int x48, .ref h17, .int x49, .int x50, .int x51, .int x52, .int x53])), (h7, .inl (y0, 2600, .inl f0))] H) (hD : va_D A [(h0, .inr (12, .int x0 :: .ref h1 :: .ref h2 :: .int x1 :: .int x2 :: .int x3 :: .int x4 :: .int x5 :: .int x6 :: .int x7 :: .int x8 :: .int x9 :: [.int x10, .int x11, .int x12, .int x13, .int x14, .int x15, .ref h3, .ref h4, .ref h5, .ref h6, .int x16, .int x17, .int x18, .int x19, .int x20, .int x21, .int x22, .int x23, .ref h7, .int x24, .int x25, .int b168, .int x27, .ref h8, .ref h9, .int x28, .int x29, .long z0, .int x30, .int b169, .ref h10, .ref h11, .ref h12, .ref h13, .ref h14, .int x32, .int x33, .int x34, .int x35, .int x36, .int x37, .int x38, .int x39, .int x40, .ref h15, .ref h16, .int x41, .int x42, .int x43, .int x44, .int x45, .int x46, .int x47, .int x48, .ref h17, .int x49, .int x50, .int x51, .int x52, .int x53])), (h7, .inl (y0, 2600, .inl f0))]) (hS : va_S A s.heap H locs) (ls : Array Slot) (hl : lv_has ls 7 [(6, .int b686), (3, .int b167), (2, .int b36), (1, .int u3_0), (0, .ref h0)]), W p l e (headSpec (Cond.code yX12_readNumber cX12_readNumber 7 (some .boolean) :: lw_G) ({ frames := 2, cells := 0, slots := 0, locals := 40 })).room s m ar below meth c H locs 0 0 Q (F0 m 176 ls [.int b768, .int b686])) ?_ (fun j769 => ?_)
                    · skip
                      intro b768 ib768 H locs hK hP hD hS ls hl
                      refine lv_icmp_ge (tgt := 183) hx hb dX12_readNumber_176 (by decide) (fun c770 => ?_) (fun c770 => ?_)
                      · skip
                        have rl771 : b768.toInt ≤ b686.toInt := Int32.le_iff_toInt_le.mp c770
                        have j772 : iv b686 10 207 := iv_leR ib768 ib686 c770 (by decide)
                        refine lv_iconst (v := 0) hx hb dX12_readNumber_183 (by decide) ?_
                        have kc0 : (0 : Int32).toInt = 0 := by decide
                        have oh773 : b686.toInt + 192 * (0 : Int32).toInt ≤ 207 := by omega
                        exact j702 0 (iv_w (by decide : iv 0 0 0) (by decide) (by decide)) oh773 _ _ hK hP hD hS ls hl
                      · skip
                        have rl774 : b686.toInt < b768.toInt := iv_nle2 c770
                        have j775 : iv b686 0 15 := iv_nleR ib768 ib686 c770 (by decide)
                        refine lv_iconst (v := 1) hx hb dX12_readNumber_179 (by decide) ?_
                        refine lv_goto (tgt := 184) hx hb dX12_readNumber_180 (by decide) ?_
                        have kc1 : (1 : Int32).toInt = 1 := by decide
                        have oh776 : b686.toInt + 192 * (1 : Int32).toInt ≤ 207 := by omega
                        exact j702 1 (iv_w (by decide : iv 1 1 1) (by decide) (by decide)) oh776 _ _ hK hP hD hS ls hl
                    refine lv_if_eq (tgt := 174) hx hb dX12_readNumber_166 (by decide) (fun c765 => ?_) (fun c765 => ?_)
                    · skip
                      have j777 : iv b36 0 0 := iv_eqc c765 (by decide)
                      refine lv_bipush (v := 10) hx hb dX12_readNumber_174 (by decide) ?_
                      exact j769 10 (iv_w (by decide : iv 10 10 10) (by decide) (by decide)) _ _ hK hP hD hS ls (lv_sub hl [0, 2, 3, 4, 5] rfl)
                    · skip
                      have j778 : iv b36 1 1 := iv_neLo ib36 (by decide : iv 0 0 0) c765 (by decide)
                      refine lv_bipush (v := 16) hx hb dX12_readNumber_169 (by decide) ?_
                      refine lv_goto (tgt := 176) hx hb dX12_readNumber_171 (by decide) ?_
                      exact j769 16 (iv_w (by decide : iv 16 16 16) (by decide) (by decide)) _ _ hK hP hD hS ls (lv_sub hl [0, 2, 3, 4, 5] rfl)
                refine lv_if_eq (tgt := 139) hx hb dX12_readNumber_128 (by decide) (fun c678 => ?_) (fun c678 => ?_)
                · skip
                  have j779 : iv r673 0 0 := iv_eqc c678 (by decide)
                  refine lv_iload hx hb dX12_readNumber_139 (lv_at hl 0 rfl) ?_
                  refine lv_bipush (v := 103) hx hb dX12_readNumber_141 (by decide) ?_
                  refine lv_icmp_ge (tgt := 154) hx hb dX12_readNumber_143 (by decide) (fun c780 => ?_) (fun c780 => ?_)
                  · skip
                    have j781 : iv r669 103 255 := iv_leR (by decide : iv 103 103 103) ir669 c780 (by decide)
                    refine lv_bipush (v := 99) hx hb dX12_readNumber_154 (by decide) ?_
                    exact j687 99 (iv_w (by decide : iv 99 99 99) (by decide) (by decide)) _ _ hK hP hD hS ls (lv_sub hl [1, 2, 3, 4, 5] rfl)
                  · skip
                    have j782 : iv r669 (-1) 102 := iv_nleR (by decide : iv 103 103 103) ir669 c780 (by decide)
                    refine lv_iload hx hb dX12_readNumber_146 (lv_at hl 0 rfl) ?_
                    refine lv_bipush (v := 87) hx hb dX12_readNumber_148 (by decide) ?_
                    refine lv_isub hx hb dX12_readNumber_150 ?_
                    refine lv_topi (fun v783 ev783 => ?_)
                    have iv783 : iv v783 (-88) 15 := iv_eq ev783 (iv_sub j782 (by decide : iv 87 87 87) (by decide) (by decide))
                    have tv783 : v783.toInt = r669.toInt + (-87) := iv_subT ev783 j782 (by decide) (by decide) (by decide)
                    refine lv_goto (tgt := 156) hx hb dX12_readNumber_151 (by decide) ?_
                    have j784 : iv v783 0 207 := ⟨by omega, by omega⟩
                    exact j687 v783 j784 _ _ hK hP hD hS ls (lv_sub hl [1, 2, 3, 4, 5] rfl)
                · skip
                  have j785 : iv r673 1 1 := iv_neLo ir673 (by decide : iv 0 0 0) c678 (by decide)
                  refine lv_iload hx hb dX12_readNumber_131 (lv_at hl 0 rfl) ?_
                  refine lv_bipush (v := 48) hx hb dX12_readNumber_133 (by decide) ?_
                  refine lv_isub hx hb dX12_readNumber_135 ?_
                  refine lv_topi (fun v786 ev786 => ?_)
                  have iv786 : iv v786 (-49) 207 := iv_eq ev786 (iv_sub ir669 (by decide : iv 48 48 48) (by decide) (by decide))
                  have tv786 : v786.toInt = r669.toInt + (-48) := iv_subT ev786 ir669 (by decide) (by decide) (by decide)
                  refine lv_goto (tgt := 156) hx hb dX12_readNumber_136 (by decide) ?_
                  have j787 : iv v786 0 207 := ⟨by omega, by omega⟩
                  exact j687 v786 j787 _ _ hK hP hD hS ls (lv_sub hl [1, 2, 3, 4, 5] rfl)
        have oh788 : x26.toInt ≤ b44.toInt := by omega
        have oh789 : b44.toInt ≤ x27.toInt := by omega
        have kc0 : (0 : Int32).toInt = 0 := by decide
        have oh790 : (0 : Int32).toInt + x26.toInt ≤ b44.toInt := by omega
        have kc0 : (0 : Int32).toInt = 0 := by decide
        have kc0 : (0 : Int32).toInt = 0 := by decide
        have oh791 : NB (0 : Int32).toInt (0 : Int32).toInt := by first | (exact NB_0 (by omega) (by omega)) | (exact NB_ge (by omega)) | (exact NB_step o723 (by omega) (by omega) (by omega)) | (exact NB_step o474 (by omega) (by omega) (by omega)) | (exact NB_step o173 (by omega) (by omega) (by omega)) | (exact NB_to o723 (by omega) (by omega)) | (exact NB_to o474 (by omega) (by omega)) | (exact NB_to o173 (by omega) (by omega))
        exact lp347 _ 1 0 b44 0 (iv_w (by decide : iv 1 1 1) (by decide) (by decide)) (iv_w (by decide : iv 0 0 0) (by decide) (by decide)) ib44 (iv_w (by decide : iv 0 0 0) (by decide) (by decide)) oh788 oh789 oh790 oh791 (Nat.lt_succ_self _) _ _ hK hP hD hS ls hl
      refine lv_if_eq (tgt := 87) hx hb dX12_readNumber_74 (by decide) (fun c39 => ?_) (fun c39 => ?_)
      · skip
        have j792 : iv b36 0 0 := iv_eqc c39 (by decide)
        have oh793 : x26.toInt ≤ u3_0.toInt := by omega
        have oh794 : u3_0.toInt ≤ x27.toInt := by omega
        exact j47 u3_0 iu3_0 oh793 oh794 _ _ hK hP hD hS ls hl
      · skip
        have j795 : iv b36 1 1 := iv_neLo ib36 (by decide : iv 0 0 0) c39 (by decide)
        refine lv_aload_n hx hb dX12_readNumber_77 rfl (lv_at hl 2 rfl) ?_
        refine lv_dup hx hb dX12_readNumber_78 rfl ?_
        refine va_get (D := (dC, dI)) (ci := 12) (v := .int u3_0) (C := RX12) (T := TX12) (N := 72) hx hb hG inGX12 hown hK hP 0 rfl rfl 33 (by decide) (hG _ wd_1340) (fun _ h9 => h9) rfl dX12_readNumber_79 ?_
        refine lv_iconst (v := 2) hx hb dX12_readNumber_82 (by decide) ?_
        refine lv_iadd hx hb dX12_readNumber_83 ?_
        refine lv_topi (fun v796 ev796 => ?_)
        have iv796 : iv v796 2 2502 := iv_eq ev796 (iv_add iu3_0 (by decide : iv 2 2 2) (by decide) (by decide))
        have tv796 : v796.toInt = u3_0.toInt + 2 := iv_addT ev796 iu3_0 (by decide) (by decide) (by decide)
        have j797 : iv v796 2 2500 := ⟨by omega, by omega⟩
        refine va_put (D := (dC, dI)) (ci := 12) (v := .int v796) (ty := .int) (C := RX12) (T := TX12) (N := 72) hx hb hG inGX12 tyX12 tyX12_ok nmX12 hown hK hP hD hS 0 rfl rfl 33 (by decide) (hG _ wd_1340) (fun _ h9 => h9) rfl (by decide +kernel) rfl rfl (Nat.le_of_ble_eq_true rfl) dX12_readNumber_84 (fun H locs hP hD hS => ?_)
        obtain ⟨hP, hD⟩ := nv_eq (ws' := [(h0, .inr (12, .int x0 :: .ref h1 :: .ref h2 :: .int x1 :: .int x2 :: .int x3 :: .int x4 :: .int x5 :: .int x6 :: .int x7 :: .int x8 :: .int x9 :: [.int x10, .int x11, .int x12, .int x13, .int x14, .int x15, .ref h3, .ref h4, .ref h5, .ref h6, .int x16, .int x17, .int x18, .int x19, .int x20, .int x21, .int x22, .int x23, .ref h7, .int x24, .int x25, .int v796, .int x27, .ref h8, .ref h9, .int x28, .int x29, .long z0, .int x30, .int x31, .ref h10, .ref h11, .ref h12, .ref h13, .ref h14, .int x32, .int x33, .int x34, .int x35, .int x36, .int x37, .int x38, .int x39, .int x40, .ref h15, .ref h16, .int x41, .int x42, .int x43, .int x44, .int x45, .int x46, .int x47, .int x48, .ref h17, .int x49, .int x50, .int x51, .int x52, .int x53])), (h7, .inl (y0, 2600, .inl f0))]) hP hD rfl
        have oh798 : x26.toInt ≤ v796.toInt := by omega
        have oh799 : v796.toInt ≤ x27.toInt := by omega
        exact j47 v796 (iv_w j797 (by decide) (by decide)) oh798 oh799 _ _ hK hP hD hS ls hl
    refine lv_icmp_ne (tgt := 71) hx hb dX12_readNumber_35 (by decide) (fun c23 => ?_) (fun c23 => ?_)
    · skip
      refine lv_iconst (v := 0) hx hb dX12_readNumber_71 (by decide) ?_
      have kc0 : (0 : Int32).toInt = 0 := by decide
      have oh800 : u3_0.toInt + 2 * (0 : Int32).toInt ≤ x27.toInt := by omega
      exact j38 0 (iv_w (by decide : iv 0 0 0) (by decide) (by decide)) oh800 _ _ hK hP hD hS ls hl
    · skip
      have j801 : iv r19 48 48 := iv_eqc c23 (by decide)
      refine lv_aload_n hx hb dX12_readNumber_38 rfl (lv_at hl 1 rfl) ?_
      refine va_get (D := (dC, dI)) (ci := 12) (v := .int u3_0) (C := RX12) (T := TX12) (N := 72) hx hb hG inGX12 hown hK hP 0 rfl rfl 33 (by decide) (hG _ wd_1340) (fun _ h9 => h9) rfl dX12_readNumber_39 ?_
      refine lv_iconst (v := 1) hx hb dX12_readNumber_42 (by decide) ?_
      refine lv_iadd hx hb dX12_readNumber_43 ?_
      refine lv_topi (fun v802 ev802 => ?_)
      have iv802 : iv v802 1 2501 := iv_eq ev802 (iv_add iu3_0 (by decide : iv 1 1 1) (by decide) (by decide))
      have tv802 : v802.toInt = u3_0.toInt + 1 := iv_addT ev802 iu3_0 (by decide) (by decide) (by decide)
      refine lv_aload_n hx hb dX12_readNumber_44 rfl (lv_at hl 1 rfl) ?_
      refine va_get (D := (dC, dI)) (ci := 12) (v := .int x27) (C := RX12) (T := TX12) (N := 72) hx hb hG inGX12 hown hK hP 0 rfl rfl 34 (by decide) (hG _ wd_1341) (fun _ h9 => h9) rfl dX12_readNumber_45 ?_
      refine lv_icmp_ge (tgt := 71) hx hb dX12_readNumber_48 (by decide) (fun c803 => ?_) (fun c803 => ?_)
      · skip
        have rl804 : x27.toInt ≤ v802.toInt := Int32.le_iff_toInt_le.mp c803
        refine lv_iconst (v := 0) hx hb dX12_readNumber_71 (by decide) ?_
        have kc0 : (0 : Int32).toInt = 0 := by decide
        have oh805 : u3_0.toInt + 2 * (0 : Int32).toInt ≤ x27.toInt := by omega
        exact j38 0 (iv_w (by decide : iv 0 0 0) (by decide) (by decide)) oh805 _ _ hK hP hD hS ls hl
      · skip
        have rl806 : v802.toInt < x27.toInt := iv_nle2 c803
        have j807 : iv x27 2 2500 := iv_nleL ix27 iv802 c803 (by decide)
        have j808 : iv v802 1 2499 := iv_nleR ix27 iv802 c803 (by decide)
        have j809 : iv u3_0 0 2498 := by have q9 := iu3_0; exact ⟨by omega, by omega⟩
        refine lv_aload_n hx hb dX12_readNumber_51 rfl (lv_at hl 1 rfl) ?_
        refine va_get (D := (dC, dI)) (ci := 12) (v := .ref h7) (C := RX12) (T := TX12) (N := 72) hx hb hG inGX12 hown hK hP 0 rfl rfl 30 (by decide) (hG _ wd_1337) (fun _ h9 => h9) rfl dX12_readNumber_52 ?_
        refine lv_aload_n hx hb dX12_readNumber_55 rfl (lv_at hl 1 rfl) ?_
        refine va_get (D := (dC, dI)) (ci := 12) (v := .int u3_0) (C := RX12) (T := TX12) (N := 72) hx hb hG inGX12 hown hK hP 0 rfl rfl 33 (by decide) (hG _ wd_1340) (fun _ h9 => h9) rfl dX12_readNumber_56 ?_
        refine lv_iconst (v := 1) hx hb dX12_readNumber_59 (by decide) ?_
        refine lv_iadd hx hb dX12_readNumber_60 ?_
        refine lv_topi (fun v810 ev810 => ?_)
        have iv810 : iv v810 1 2499 := iv_eq ev810 (iv_add j809 (by decide : iv 1 1 1) (by decide) (by decide))
        have tv810 : v810.toInt = u3_0.toInt + 1 := iv_addT ev810 j809 (by decide) (by decide) (by decide)
        refine va_bald hx hb hK hP 1 0 rfl rfl (iv_in iv810 (by decide) (by decide) : vp_in v810 2600) dX12_readNumber_61 ?_
        refine lv_topi (fun v811 ev811 => ?_)
        have iv811 : iv v811 (-128) 127 := iv_eq ev811 (if0 _)
        refine lv_bipush (v := 120) hx hb dX12_readNumber_62 (by decide) ?_
        refine lv_icmp_ne (tgt := 71) hx hb dX12_readNumber_64 (by decide) (fun c812 => ?_) (fun c812 => ?_)
        · skip
          refine lv_iconst (v := 0) hx hb dX12_readNumber_71 (by decide) ?_
          have kc0 : (0 : Int32).toInt = 0 := by decide
          have oh813 : u3_0.toInt + 2 * (0 : Int32).toInt ≤ x27.toInt := by omega
          exact j38 0 (iv_w (by decide : iv 0 0 0) (by decide) (by decide)) oh813 _ _ hK hP hD hS ls hl
        · skip
          have j814 : iv v811 120 120 := iv_eqc c812 (by decide)
          refine lv_iconst (v := 1) hx hb dX12_readNumber_67 (by decide) ?_
          refine lv_goto (tgt := 72) hx hb dX12_readNumber_68 (by decide) ?_
          have kc1 : (1 : Int32).toInt = 1 := by decide
          have oh815 : u3_0.toInt + 2 * (1 : Int32).toInt ≤ x27.toInt := by omega
          exact j38 1 (iv_w (by decide : iv 1 1 1) (by decide) (by decide)) oh815 _ _ hK hP hD hS ls hl
  · skip
    have j816 : iv r11 0 0 := iv_eqc c16 (by decide)
    refine lv_aload_n hx hb dX12_readNumber_19 rfl (lv_at hl 1 rfl) ?_
    refine lv_iconst (v := 1) hx hb dX12_readNumber_20 (by decide) ?_
    refine lv_aload_n hx hb dX12_readNumber_21 rfl (lv_at hl 1 rfl) ?_
    refine va_get (D := (dC, dI)) (ci := 12) (v := .int u3_0) (C := RX12) (T := TX12) (N := 72) hx hb hG inGX12 hown hK hP 0 rfl rfl 33 (by decide) (hG _ wd_1340) (fun _ h9 => h9) rfl dX12_readNumber_22 ?_
    obtain ⟨hPc, hDc, hFc⟩ := nv_sub3 (wc := [(h0, .inr (12, .int x0 :: .ref h1 :: .ref h2 :: .int x1 :: .int x2 :: .int x3 :: .int x4 :: .int x5 :: .int x6 :: .int x7 :: .int x8 :: .int x9 :: [.int x10, .int x11, .int x12, .int x13, .int x14, .int x15, .ref h3, .ref h4, .ref h5, .ref h6, .int x16, .int x17, .int x18, .int x19, .int x20, .int x21, .int x22, .int x23, .ref h7, .int x24, .int x25, .int u3_0, .int x27, .ref h8, .ref h9, .int x28, .int x29, .long z0, .int x30, .int x31, .ref h10, .ref h11, .ref h12, .ref h13, .ref h14, .int x32, .int x33, .int x34, .int x35, .int x36, .int x37, .int x38, .int x39, .int x40, .ref h15, .ref h16, .int x41, .int x42, .int x43, .int x44, .int x45, .int x46, .int x47, .int x48, .ref h17, .int x49, .int x50, .int x51, .int x52, .int x53]))]) hP hD hS hA [0] (by decide) rfl
    have hKc := hK.sub (tys' := []) [] rfl
    refine va_calli (va_runV (As := [.int 1, .int u3_0]) (rest := []) ⟨hx, hb, hml, hown, hG⟩ (cX12_wrong_1 l dC dI h0 h1 h2 h3 h4 h5 h6 h7 h8 h9 h10 h11 h12 h13 h14 h15 h16 h17 H.size 1 u3_0 x0 x1 x2 x3 x4 x5 x6 x7 x8 x9 x10 x11 x12 x13 x14 x15 x16 x17 x18 x19 x20 x21 x22 x23 x24 x25 u3_0 x27 x28 x29 x30 x31 x32 x33 x34 x35 x36 x37 x38 x39 x40 x41 x42 x43 x44 x45 x46 x47 x48 x49 x50 x51 x52 x53 z0 ix15 ix16 ix21 ix22 ix23 ix24 ix25 iu3_0 ix27 ix31 ix32 ix33 ix34 ix35 ix36 ix41 ix42 ix46 ix47 ix49 ix53) (cwV 2 hG (gV wd_1731 wd_1733 wp_101 wd_17 wd_1734) rfl rfl rfl (by decide +kernel) ⟨Nat.le_of_ble_eq_true rfl, Nat.le_of_ble_eq_true rfl⟩) ⟨fun a U g mk q => by obtain ⟨q0, q1, qP, qK, qD⟩ := q; exact ⟨q0, q1, qP, va_K.moved (u := U) (U := U.calling g mk a) (Vm.Alike.refl U.vm) qK, qD⟩, va_recv hKc hPc (ci := 12) (q0 := 0) rfl rfl, fun U hU hW => ⟨rfl, by rw [hU], by rw [hU]; exact hPc, va_K.moved hW.alike hKc, hDc.weaken (fun _ _ _ _ => trivial)⟩⟩ rfl rfl hl.1 rfl (lv_room (Nat.le_of_ble_eq_true rfl)) dX12_readNumber_25 ⟨by decide, by decide⟩) hS (fun q _ h => hFc q h) hFc (fun r817 u818 t H1 locs ht hvm hw hB hz1 hk1 hS => ?_)
    have hw : r817 = 0 ∧ True := hw
    obtain ⟨er817, -⟩ := hw
    obtain ⟨hP1, hK1, hD1⟩ := hB
    rw [ht] at hP1
    have hK1 := va_K.moved hvm.symm hK1
    obtain ⟨hP, hD⟩ := nv_join (wf := [(h7, .inl (y0, 2600, .inl f0)), (h0, .inr (12, .int x0 :: .ref h1 :: .ref h2 :: .int x1 :: .int x2 :: .int x3 :: .int x4 :: .int x5 :: .int x6 :: .int x7 :: .int x8 :: .int x9 :: [.int x10, .int x11, .int x12, .int x13, .int x14, .int x15, .ref h3, .ref h4, .ref h5, .ref h6, .int x16, .int x17, .int x18, .int x19, .int x20, .int x21, .int x22, .int x23, .ref h7, .int x24, .int x25, .int u3_0, .int x27, .ref h8, .ref h9, .int 1, .int u3_0, .long z0, .int x30, .int x31, .ref h10, .ref h11, .ref h12, .ref h13, .ref h14, .int x32, .int x33, .int x34, .int x35, .int x36, .int x37, .int x38, .int x39, .int x40, .ref h15, .ref h16, .int x41, .int x42, .int x43, .int x44, .int x45, .int x46, .int x47, .int x48, .ref h17, .int x49, .int x50, .int x51, .int x52, .int x53]))]) hP hD [0] [1] rfl rfl (by decide) (by decide) hk1 hFc hP1 hD1 rfl
    have hK := (hK.sub (tys' := [(y0, .byte)]) [0] rfl).app hK1
    generalize H1 = H at hP hS ⊢
    have hK : va_K (dC, dI) vwCl [(y0, .byte)] s := hK
    clear hKc hPc hDc hFc hP1 hD1 hK1 hk1 hz1
    subst er817
    rw [hQ]
    obtain ⟨hP9, hD9⟩ := nv_sub2 (wc := [(h0, .inr (12, .int x0 :: .ref h1 :: .ref h2 :: .int x1 :: .int x2 :: .int x3 :: .int x4 :: .int x5 :: .int x6 :: .int x7 :: .int x8 :: .int x9 :: [.int x10, .int x11, .int x12, .int x13, .int x14, .int x15, .ref h3, .ref h4, .ref h5, .ref h6, .int x16, .int x17, .int x18, .int x19, .int x20, .int x21, .int x22, .int x23, .ref h7, .int x24, .int x25, .int u3_0, .int x27, .ref h8, .ref h9, .int 1, .int u3_0, .long z0, .int x30, .int x31, .ref h10, .ref h11, .ref h12, .ref h13, .ref h14, .int x32, .int x33, .int x34, .int x35, .int x36, .int x37, .int x38, .int x39, .int x40, .ref h15, .ref h16, .int x41, .int x42, .int x43, .int x44, .int x45, .int x46, .int x47, .int x48, .ref h17, .int x49, .int x50, .int x51, .int x52, .int x53])), (h7, .inl (y0, 2600, .inl f0))]) hP hD [1, 0] (by decide) rfl
    have hK9 := hK.sub (tys' := [(y0, .byte)]) [0] rfl
    have oh819 : x26.toInt ≤ u3_0.toInt := by omega
    have oh820 : u3_0.toInt ≤ x27.toInt := by omega
    have kc0 : (0 : Int32).toInt = 0 := by decide
    have oh821 : x26.toInt + (0 : Int32).toInt ≤ u3_0.toInt := by omega
    exact W.zret (v := 0) hx hb hr rfl (fun t ht hW => ⟨⟨0, (u3_0, 1, u3_0, x31), rfl, ⟨iv_w (by decide : iv 0 0 0) (by decide) (by decide), iv_w iu3_0 (by decide) (by decide), iv_w ix31 (by decide) (by decide), oh819, oh820, oh821, trivial⟩, by rw [ht]; exact hP9, va_K.moved hW.alike hK9, hD9⟩, hS.F ht⟩) hS.2.2 dX12_readNumber_28
