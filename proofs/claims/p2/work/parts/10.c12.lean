set_option maxHeartbeats 100000000 in
set_option maxRecDepth 100000 in
theorem cX12_readName_1 (l : Launch) (dC : Nat → ClassId) (dI : Nat → Nat → Nat) (h0 h1 h2 h3 h4 h5 h6 h7 h8 h9 h10 h11 h12 h13 h14 h15 h16 h17 : Nat) (y0 : ClassId) (sz : Nat) (x0 x1 x2 x3 x4 x5 x6 x7 x8 x9 x10 x11 x12 x13 x14 x15 x16 x17 x18 x19 x20 x21 x22 x23 x24 x25 x26 x27 x28 x29 x30 x31 x32 x33 x34 x35 x36 x37 x38 x39 x40 x41 x42 x43 x44 x45 x46 x47 x48 x49 x50 x51 x52 x53 : Int32) (z0 : Int64) (f0 : Nat → Int32) (ix15 : iv x15 0 1) (ix16 : iv x16 0 40) (ix21 : iv x21 0 65535) (ix22 : iv x22 0 1) (ix23 : iv x23 0 1) (ix24 : iv x24 0 2600) (ix25 : iv x25 0 2600) (ix26 : iv x26 0 2500) (ix27 : iv x27 0 2500) (ix31 : iv x31 0 1048575) (ix32 : iv x32 0 60) (ix33 : iv x33 0 60) (ix34 : iv x34 0 1) (ix35 : iv x35 0 1) (ix36 : iv x36 0 65535) (ix41 : iv x41 0 5200) (ix42 : iv x42 0 70800) (ix46 : iv x46 0 1) (ix47 : iv x47 0 1) (ix49 : iv x49 0 100) (ix53 : iv x53 0 1) (if0 : ∀ j, iv (f0 j) (-128) 127) (q0 : x26.toInt ≤ x27.toInt) : Met l yX12_readName (Cond.code yX12_readName cX12_readName 2 (some .boolean) :: lw_G) ({ frames := 2, cells := 0, slots := 0, locals := 40 }) (va_Pc [.ref h0] (fun U => U.heap.size = sz ∧ va_P (dC, dI) vwCl [(h0, .inr (12, .int x0 :: .ref h1 :: .ref h2 :: .int x1 :: .int x2 :: .int x3 :: .int x4 :: .int x5 :: .int x6 :: .int x7 :: .int x8 :: .int x9 :: [.int x10, .int x11, .int x12, .int x13, .int x14, .int x15, .ref h3, .ref h4, .ref h5, .ref h6, .int x16, .int x17, .int x18, .int x19, .int x20, .int x21, .int x22, .int x23, .ref h7, .int x24, .int x25, .int x26, .int x27, .ref h8, .ref h9, .int x28, .int x29, .long z0, .int x30, .int x31, .ref h10, .ref h11, .ref h12, .ref h13, .ref h14, .int x32, .int x33, .int x34, .int x35, .int x36, .int x37, .int x38, .int x39, .int x40, .ref h15, .ref h16, .int x41, .int x42, .int x43, .int x44, .int x45, .int x46, .int x47, .int x48, .ref h17, .int x49, .int x50, .int x51, .int x52, .int x53])), (h7, .inl (y0, 2600, .inl f0))] U.heap ∧ va_K (dC, dI) vwCl [(y0, .byte)] U ∧ va_D (fun _ => True) [(h0, .inr (12, .int x0 :: .ref h1 :: .ref h2 :: .int x1 :: .int x2 :: .int x3 :: .int x4 :: .int x5 :: .int x6 :: .int x7 :: .int x8 :: .int x9 :: [.int x10, .int x11, .int x12, .int x13, .int x14, .int x15, .ref h3, .ref h4, .ref h5, .ref h6, .int x16, .int x17, .int x18, .int x19, .int x20, .int x21, .int x22, .int x23, .ref h7, .int x24, .int x25, .int x26, .int x27, .ref h8, .ref h9, .int x28, .int x29, .long z0, .int x30, .int x31, .ref h10, .ref h11, .ref h12, .ref h13, .ref h14, .int x32, .int x33, .int x34, .int x35, .int x36, .int x37, .int x38, .int x39, .int x40, .ref h15, .ref h16, .int x41, .int x42, .int x43, .int x44, .int x45, .int x46, .int x47, .int x48, .ref h17, .int x49, .int x50, .int x51, .int x52, .int x53])), (h7, .inl (y0, 2600, .inl f0))])) (va_Qi (fun (r : Int32) (u : Int32 × Int32 × Int32 × Int64 × Int32) => iv r 0 1 ∧ iv u.1 0 2500 ∧ iv u.2.2.2.2 0 2500 ∧ (x26.toInt ≤ u.1.toInt) ∧ (u.1.toInt ≤ x27.toInt) ∧ (x26.toInt + r.toInt ≤ u.1.toInt) ∧ True) (fun (u : Int32 × Int32 × Int32 × Int64 × Int32) (t : State) => va_P (dC, dI) vwCl [(h0, .inr (12, .int x0 :: .ref h1 :: .ref h2 :: .int x1 :: .int x2 :: .int x3 :: .int x4 :: .int x5 :: .int x6 :: .int x7 :: .int x8 :: .int x9 :: [.int x10, .int x11, .int x12, .int x13, .int x14, .int x15, .ref h3, .ref h4, .ref h5, .ref h6, .int x16, .int x17, .int x18, .int x19, .int x20, .int x21, .int x22, .int x23, .ref h7, .int x24, .int x25, .int u.1, .int x27, .ref h8, .ref h9, .int u.2.1, .int u.2.2.1, .long u.2.2.2.1, .int u.2.2.2.2, .int x31, .ref h10, .ref h11, .ref h12, .ref h13, .ref h14, .int x32, .int x33, .int x34, .int x35, .int x36, .int x37, .int x38, .int x39, .int x40, .ref h15, .ref h16, .int x41, .int x42, .int x43, .int x44, .int x45, .int x46, .int x47, .int x48, .ref h17, .int x49, .int x50, .int x51, .int x52, .int x53])), (h7, .inl (y0, 2600, .inl f0))] t.heap ∧ va_K (dC, dI) vwCl [(y0, .byte)] t ∧ va_D (va_A [(h0, .inr (12, .int x0 :: .ref h1 :: .ref h2 :: .int x1 :: .int x2 :: .int x3 :: .int x4 :: .int x5 :: .int x6 :: .int x7 :: .int x8 :: .int x9 :: [.int x10, .int x11, .int x12, .int x13, .int x14, .int x15, .ref h3, .ref h4, .ref h5, .ref h6, .int x16, .int x17, .int x18, .int x19, .int x20, .int x21, .int x22, .int x23, .ref h7, .int x24, .int x25, .int x26, .int x27, .ref h8, .ref h9, .int x28, .int x29, .long z0, .int x30, .int x31, .ref h10, .ref h11, .ref h12, .ref h13, .ref h14, .int x32, .int x33, .int x34, .int x35, .int x36, .int x37, .int x38, .int x39, .int x40, .ref h15, .ref h16, .int x41, .int x42, .int x43, .int x44, .int x45, .int x46, .int x47, .int x48, .ref h17, .int x49, .int x50, .int x51, .int x52, .int x53])), (h7, .inl (y0, 2600, .inl f0))] sz) [(h0, .inr (12, .int x0 :: .ref h1 :: .ref h2 :: .int x1 :: .int x2 :: .int x3 :: .int x4 :: .int x5 :: .int x6 :: .int x7 :: .int x8 :: .int x9 :: [.int x10, .int x11, .int x12, .int x13, .int x14, .int x15, .ref h3, .ref h4, .ref h5, .ref h6, .int x16, .int x17, .int x18, .int x19, .int x20, .int x21, .int x22, .int x23, .ref h7, .int x24, .int x25, .int u.1, .int x27, .ref h8, .ref h9, .int u.2.1, .int u.2.2.1, .long u.2.2.2.1, .int u.2.2.2.2, .int x31, .ref h10, .ref h11, .ref h12, .ref h13, .ref h14, .int x32, .int x33, .int x34, .int x35, .int x36, .int x37, .int x38, .int x39, .int x40, .ref h15, .ref h16, .int x41, .int x42, .int x43, .int x44, .int x45, .int x46, .int x47, .int x48, .ref h17, .int x49, .int x50, .int x51, .int x52, .int x53])), (h7, .inl (y0, 2600, .inl f0))]) (va_A [(h0, .inr (12, .int x0 :: .ref h1 :: .ref h2 :: .int x1 :: .int x2 :: .int x3 :: .int x4 :: .int x5 :: .int x6 :: .int x7 :: .int x8 :: .int x9 :: [.int x10, .int x11, .int x12, .int x13, .int x14, .int x15, .ref h3, .ref h4, .ref h5, .ref h6, .int x16, .int x17, .int x18, .int x19, .int x20, .int x21, .int x22, .int x23, .ref h7, .int x24, .int x25, .int x26, .int x27, .ref h8, .ref h9, .int x28, .int x29, .long z0, .int x30, .int x31, .ref h10, .ref h11, .ref h12, .ref h13, .ref h14, .int x32, .int x33, .int x34, .int x35, .int x36, .int x37, .int x38, .int x39, .int x40, .ref h15, .ref h16, .int x41, .int x42, .int x43, .int x44, .int x45, .int x46, .int x47, .int x48, .ref h17, .int x49, .int x50, .int x51, .int x52, .int x53])), (h7, .inl (y0, 2600, .inl f0))] sz)) 0 0 (va_A [(h0, .inr (12, .int x0 :: .ref h1 :: .ref h2 :: .int x1 :: .int x2 :: .int x3 :: .int x4 :: .int x5 :: .int x6 :: .int x7 :: .int x8 :: .int x9 :: [.int x10, .int x11, .int x12, .int x13, .int x14, .int x15, .ref h3, .ref h4, .ref h5, .ref h6, .int x16, .int x17, .int x18, .int x19, .int x20, .int x21, .int x22, .int x23, .ref h7, .int x24, .int x25, .int x26, .int x27, .ref h8, .ref h9, .int x28, .int x29, .long z0, .int x30, .int x31, .ref h10, .ref h11, .ref h12, .ref h13, .ref h14, .int x32, .int x33, .int x34, .int x35, .int x36, .int x37, .int x38, .int x39, .int x40, .ref h15, .ref h16, .int x41, .int x42, .int x43, .int x44, .int x45, .int x46, .int x47, .int x48, .ref h17, .int x49, .int x50, .int x51, .int x52, .int x53])), (h7, .inl (y0, 2600, .inl f0))] sz) := by
  refine Met.ofW (cc := cX12_readName) (maxL := 2) (ret := (some .boolean)) (by decide) rfl ?_
  intro p e s m args below meth c s₁ B hml hv
  obtain ⟨rfl, hsz, hP, hK, hD0⟩ := hv
  have hx := B.exec
  have hb := B.bytes
  have hr := B.returns
  have hts0 := atoms_spec (ws := Cond.code yX12_readName cX12_readName 2 (some .boolean) :: lw_G) B.pre
  have hG : ∀ w ∈ lw_G, w.before _ s = true := fun w h => hts0 w (List.mem_cons_of_mem _ h)
  have hown : s.vm.findClass RX12 = some m.cls := findClass_of_methodNamed B.named
  have hlocks := B.notSynchronized
  subst hsz
  have hD := hD0.self (sz := s.heap.size)
  generalize hAe : va_A [(h0, .inr (12, .int x0 :: .ref h1 :: .ref h2 :: .int x1 :: .int x2 :: .int x3 :: .int x4 :: .int x5 :: .int x6 :: .int x7 :: .int x8 :: .int x9 :: [.int x10, .int x11, .int x12, .int x13, .int x14, .int x15, .ref h3, .ref h4, .ref h5, .ref h6, .int x16, .int x17, .int x18, .int x19, .int x20, .int x21, .int x22, .int x23, .ref h7, .int x24, .int x25, .int x26, .int x27, .ref h8, .ref h9, .int x28, .int x29, .long z0, .int x30, .int x31, .ref h10, .ref h11, .ref h12, .ref h13, .ref h14, .int x32, .int x33, .int x34, .int x35, .int x36, .int x37, .int x38, .int x39, .int x40, .ref h15, .ref h16, .int x41, .int x42, .int x43, .int x44, .int x45, .int x46, .int x47, .int x48, .ref h17, .int x49, .int x50, .int x51, .int x52, .int x53])), (h7, .inl (y0, 2600, .inl f0))] s.heap.size = A at hD ⊢
  have hA : ∀ q : Nat, s.heap.size ≤ q → A q := fun q h => by rw [← hAe]; exact Or.inr h
  have hS : va_S A s.heap s.heap [] := va_S.rf
  have hP : va_P (dC, dI) vwCl [(h0, .inr (12, .int x0 :: .ref h1 :: .ref h2 :: .int x1 :: .int x2 :: .int x3 :: .int x4 :: .int x5 :: .int x6 :: .int x7 :: .int x8 :: .int x9 :: [.int x10, .int x11, .int x12, .int x13, .int x14, .int x15, .ref h3, .ref h4, .ref h5, .ref h6, .int x16, .int x17, .int x18, .int x19, .int x20, .int x21, .int x22, .int x23, .ref h7, .int x24, .int x25, .int x26, .int x27, .ref h8, .ref h9, .int x28, .int x29, .long z0, .int x30, .int x31, .ref h10, .ref h11, .ref h12, .ref h13, .ref h14, .int x32, .int x33, .int x34, .int x35, .int x36, .int x37, .int x38, .int x39, .int x40, .ref h15, .ref h16, .int x41, .int x42, .int x43, .int x44, .int x45, .int x46, .int x47, .int x48, .ref h17, .int x49, .int x50, .int x51, .int x52, .int x53])), (h7, .inl (y0, 2600, .inl f0))] s.heap := hP
  have hl := lv_entry ([.ref h0]) (n := 2) (Nat.le_of_ble_eq_true rfl)
  rw [lg_entry_eq]
  generalize (lg_sl ([.ref h0]) ++ List.replicate (2 - (lg_sl ([.ref h0])).length) Slot.unset).toArray = ls at hl ⊢
  have hl : lv_has ls 2 [(0, .ref h0)] := hl
  generalize ([.ref h0] : List Value).toArray = ar at hG ⊢
  refine wq (fun Q hQ => ?_)
  refine lv_aload_n hx hb dX12_readName_0 rfl (lv_at hl 0 rfl) ?_
  obtain ⟨hPc, hDc, hFc⟩ := nv_sub3 (wc := [(h0, .inr (12, .int x0 :: .ref h1 :: .ref h2 :: .int x1 :: .int x2 :: .int x3 :: .int x4 :: .int x5 :: .int x6 :: .int x7 :: .int x8 :: .int x9 :: [.int x10, .int x11, .int x12, .int x13, .int x14, .int x15, .ref h3, .ref h4, .ref h5, .ref h6, .int x16, .int x17, .int x18, .int x19, .int x20, .int x21, .int x22, .int x23, .ref h7, .int x24, .int x25, .int x26, .int x27, .ref h8, .ref h9, .int x28, .int x29, .long z0, .int x30, .int x31, .ref h10, .ref h11, .ref h12, .ref h13, .ref h14, .int x32, .int x33, .int x34, .int x35, .int x36, .int x37, .int x38, .int x39, .int x40, .ref h15, .ref h16, .int x41, .int x42, .int x43, .int x44, .int x45, .int x46, .int x47, .int x48, .ref h17, .int x49, .int x50, .int x51, .int x52, .int x53])), (h7, .inl (y0, 2600, .inl f0))]) hP hD hS hA [0, 1] (by decide) rfl
  have hKc := hK.sub (tys' := [(y0, .byte)]) [0] rfl
  have oh1 : x26.toInt ≤ x27.toInt := by omega
  refine va_callv (va_runV (As := []) (rest := []) ⟨hx, hb, hml, hown, hG⟩ (cX12_blanks_1 l dC dI h0 h1 h2 h3 h4 h5 h6 h7 h8 h9 h10 h11 h12 h13 h14 h15 h16 h17 y0 s.heap.size x0 x1 x2 x3 x4 x5 x6 x7 x8 x9 x10 x11 x12 x13 x14 x15 x16 x17 x18 x19 x20 x21 x22 x23 x24 x25 x26 x27 x28 x29 x30 x31 x32 x33 x34 x35 x36 x37 x38 x39 x40 x41 x42 x43 x44 x45 x46 x47 x48 x49 x50 x51 x52 x53 z0 f0 ix15 ix16 ix21 ix22 ix23 ix24 ix25 ix26 ix27 ix31 ix32 ix33 ix34 ix35 ix36 ix41 ix42 ix46 ix47 ix49 ix53 if0 oh1) (cwV 0 hG (gV wd_1716 wd_1718 wp_98 wd_17 wd_1719) rfl rfl rfl (by decide +kernel) ⟨Nat.le_of_ble_eq_true rfl, Nat.le_of_ble_eq_true rfl⟩) ⟨fun a U g mk q => by obtain ⟨q0, q1, qP, qK, qD⟩ := q; exact ⟨q0, q1, qP, va_K.moved (u := U) (U := U.calling g mk a) (Vm.Alike.refl U.vm) qK, qD⟩, va_recv hKc hPc (ci := 12) (q0 := 0) rfl rfl, fun U hU hW => ⟨rfl, by rw [hU], by rw [hU]; exact hPc, va_K.moved hW.alike hKc, hDc.weaken (fun _ _ _ _ => trivial)⟩⟩ rfl rfl hl.1 rfl (lv_room (Nat.le_of_ble_eq_true rfl)) dX12_readName_1 ⟨by decide, by decide⟩) hS (fun q _ h => hFc q h) hFc (fun u3 t H1 locs ht hvm hw hB hz1 hk1 hS => ?_)
  obtain ⟨u3_0, rfl⟩ : ∃ z, z = u3 := ⟨_, rfl⟩
  have hw : iv u3_0 0 2500 ∧ (x26.toInt ≤ u3_0.toInt) ∧ (u3_0.toInt ≤ x27.toInt) ∧ True := hw
  obtain ⟨iu3_0, op4, op5, -⟩ := hw
  obtain ⟨hP1, hK1, hD1⟩ := hB
  rw [ht] at hP1
  have hK1 := va_K.moved hvm.symm hK1
  obtain ⟨hP, hD⟩ := nv_join (wf := [(h0, .inr (12, .int x0 :: .ref h1 :: .ref h2 :: .int x1 :: .int x2 :: .int x3 :: .int x4 :: .int x5 :: .int x6 :: .int x7 :: .int x8 :: .int x9 :: [.int x10, .int x11, .int x12, .int x13, .int x14, .int x15, .ref h3, .ref h4, .ref h5, .ref h6, .int x16, .int x17, .int x18, .int x19, .int x20, .int x21, .int x22, .int x23, .ref h7, .int x24, .int x25, .int u3_0, .int x27, .ref h8, .ref h9, .int x28, .int x29, .long z0, .int x30, .int x31, .ref h10, .ref h11, .ref h12, .ref h13, .ref h14, .int x32, .int x33, .int x34, .int x35, .int x36, .int x37, .int x38, .int x39, .int x40, .ref h15, .ref h16, .int x41, .int x42, .int x43, .int x44, .int x45, .int x46, .int x47, .int x48, .ref h17, .int x49, .int x50, .int x51, .int x52, .int x53])), (h7, .inl (y0, 2600, .inl f0))]) hP hD [0, 1] [] rfl rfl (by decide) (by decide) hk1 hFc hP1 hD1 rfl
  have hK := (hK.sub (tys' := []) [] rfl).app hK1
  generalize H1 = H at hP hS ⊢
  have hK : va_K (dC, dI) vwCl [(y0, .byte)] s := hK
  clear hKc hPc hDc hFc hP1 hD1 hK1 hk1 hz1
  refine lv_aload_n hx hb dX12_readName_4 rfl (lv_at hl 0 rfl) ?_
  refine lv_aload_n hx hb dX12_readName_5 rfl (lv_at hl 0 rfl) ?_
  refine va_get (D := (dC, dI)) (ci := 12) (v := .int u3_0) (C := RX12) (T := TX12) (N := 72) hx hb hG inGX12 hown hK hP 0 rfl rfl 33 (by decide) (hG _ wd_1340) (fun _ h9 => h9) rfl dX12_readName_6 ?_
  refine va_put (D := (dC, dI)) (ci := 12) (v := .int u3_0) (ty := .int) (C := RX12) (T := TX12) (N := 72) hx hb hG inGX12 tyX12 tyX12_ok nmX12 hown hK hP hD hS 0 rfl rfl 40 (by decide) (hG _ wd_1347) (fun _ h9 => h9) rfl (by decide +kernel) rfl rfl (Nat.le_of_ble_eq_true rfl) dX12_readName_9 (fun H locs hP hD hS => ?_)
  obtain ⟨hP, hD⟩ := nv_eq (ws' := [(h0, .inr (12, .int x0 :: .ref h1 :: .ref h2 :: .int x1 :: .int x2 :: .int x3 :: .int x4 :: .int x5 :: .int x6 :: .int x7 :: .int x8 :: .int x9 :: [.int x10, .int x11, .int x12, .int x13, .int x14, .int x15, .ref h3, .ref h4, .ref h5, .ref h6, .int x16, .int x17, .int x18, .int x19, .int x20, .int x21, .int x22, .int x23, .ref h7, .int x24, .int x25, .int u3_0, .int x27, .ref h8, .ref h9, .int x28, .int x29, .long z0, .int u3_0, .int x31, .ref h10, .ref h11, .ref h12, .ref h13, .ref h14, .int x32, .int x33, .int x34, .int x35, .int x36, .int x37, .int x38, .int x39, .int x40, .ref h15, .ref h16, .int x41, .int x42, .int x43, .int x44, .int x45, .int x46, .int x47, .int x48, .ref h17, .int x49, .int x50, .int x51, .int x52, .int x53])), (h7, .inl (y0, 2600, .inl f0))]) hP hD rfl
  refine lv_aload_n hx hb dX12_readName_12 rfl (lv_at hl 0 rfl) ?_
  obtain ⟨hPc, hDc, hFc⟩ := nv_sub3 (wc := [(h0, .inr (12, .int x0 :: .ref h1 :: .ref h2 :: .int x1 :: .int x2 :: .int x3 :: .int x4 :: .int x5 :: .int x6 :: .int x7 :: .int x8 :: .int x9 :: [.int x10, .int x11, .int x12, .int x13, .int x14, .int x15, .ref h3, .ref h4, .ref h5, .ref h6, .int x16, .int x17, .int x18, .int x19, .int x20, .int x21, .int x22, .int x23, .ref h7, .int x24, .int x25, .int u3_0, .int x27, .ref h8, .ref h9, .int x28, .int x29, .long z0, .int u3_0, .int x31, .ref h10, .ref h11, .ref h12, .ref h13, .ref h14, .int x32, .int x33, .int x34, .int x35, .int x36, .int x37, .int x38, .int x39, .int x40, .ref h15, .ref h16, .int x41, .int x42, .int x43, .int x44, .int x45, .int x46, .int x47, .int x48, .ref h17, .int x49, .int x50, .int x51, .int x52, .int x53])), (h7, .inl (y0, 2600, .inl f0))]) hP hD hS hA [0, 1] (by decide) rfl
  have hKc := hK.sub (tys' := [(y0, .byte)]) [0] rfl
  have oh6 : u3_0.toInt ≤ x27.toInt := by omega
  refine va_calli (va_runV (As := []) (rest := []) ⟨hx, hb, hml, hown, hG⟩ (cX12_peek__1 l dC dI h0 h1 h2 h3 h4 h5 h6 h7 h8 h9 h10 h11 h12 h13 h14 h15 h16 h17 y0 H.size x0 x1 x2 x3 x4 x5 x6 x7 x8 x9 x10 x11 x12 x13 x14 x15 x16 x17 x18 x19 x20 x21 x22 x23 x24 x25 u3_0 x27 x28 x29 u3_0 x31 x32 x33 x34 x35 x36 x37 x38 x39 x40 x41 x42 x43 x44 x45 x46 x47 x48 x49 x50 x51 x52 x53 z0 f0 ix15 ix16 ix21 ix22 ix23 ix24 ix25 iu3_0 ix27 ix31 ix32 ix33 ix34 ix35 ix36 ix41 ix42 ix46 ix47 ix49 ix53 if0 oh6) (cwV 0 hG (gV wd_1720 wd_1722 wp_99 wd_17 wd_1723) rfl rfl rfl (by decide +kernel) ⟨Nat.le_of_ble_eq_true rfl, Nat.le_of_ble_eq_true rfl⟩) ⟨fun a U g mk q => by obtain ⟨q0, q1, qP, qK, qD⟩ := q; exact ⟨q0, q1, qP, va_K.moved (u := U) (U := U.calling g mk a) (Vm.Alike.refl U.vm) qK, qD⟩, va_recv hKc hPc (ci := 12) (q0 := 0) rfl rfl, fun U hU hW => ⟨rfl, by rw [hU], by rw [hU]; exact hPc, va_K.moved hW.alike hKc, hDc.weaken (fun _ _ _ _ => trivial)⟩⟩ rfl rfl hl.1 rfl (lv_room (Nat.le_of_ble_eq_true rfl)) dX12_readName_13 ⟨by decide, by decide⟩) hS (fun q _ h => hFc q h) hFc (fun r7 u8 t H1 locs ht hvm hw hB hz1 hk1 hS => ?_)
  have hw : iv r7 (-1) 255 ∧ (256 * (u3_0.toInt + 1 - x27.toInt) ≤ 255 - r7.toInt) ∧ (r7.toInt = (pkf u3_0 x27 f0).toInt) ∧ True := hw
  obtain ⟨ir7, op9, op10, -⟩ := hw
  obtain ⟨hP1, hK1, hD1⟩ := hB
  rw [ht] at hP1
  have hK1 := va_K.moved hvm.symm hK1
  obtain ⟨hP, hD⟩ := nv_join (wf := [(h0, .inr (12, .int x0 :: .ref h1 :: .ref h2 :: .int x1 :: .int x2 :: .int x3 :: .int x4 :: .int x5 :: .int x6 :: .int x7 :: .int x8 :: .int x9 :: [.int x10, .int x11, .int x12, .int x13, .int x14, .int x15, .ref h3, .ref h4, .ref h5, .ref h6, .int x16, .int x17, .int x18, .int x19, .int x20, .int x21, .int x22, .int x23, .ref h7, .int x24, .int x25, .int u3_0, .int x27, .ref h8, .ref h9, .int x28, .int x29, .long z0, .int u3_0, .int x31, .ref h10, .ref h11, .ref h12, .ref h13, .ref h14, .int x32, .int x33, .int x34, .int x35, .int x36, .int x37, .int x38, .int x39, .int x40, .ref h15, .ref h16, .int x41, .int x42, .int x43, .int x44, .int x45, .int x46, .int x47, .int x48, .ref h17, .int x49, .int x50, .int x51, .int x52, .int x53])), (h7, .inl (y0, 2600, .inl f0))]) hP hD [0, 1] [] rfl rfl (by decide) (by decide) hk1 hFc hP1 hD1 rfl
  have hK := (hK.sub (tys' := []) [] rfl).app hK1
  generalize H1 = H at hP hS ⊢
  have hK : va_K (dC, dI) vwCl [(y0, .byte)] s := hK
  clear hKc hPc hDc hFc hP1 hD1 hK1 hk1 hz1
  obtain ⟨hPc, hDc, hFc⟩ := nv_sub3 (wc := []) hP hD hS hA [] (by decide) rfl
  have hKc := hK.sub (tys' := []) [] rfl
  refine va_calli (va_runS (As := [.int r7]) (rest := []) ⟨hx, hb, hml, hown, hG⟩ (cX12_isSmall_1 l dC dI H.size r7) (va_cwS 1 hG (gS wd_1728 wd_1729 wd_17 wd_1730) rfl rfl rfl (by decide +kernel) ⟨Nat.le_of_ble_eq_true rfl, Nat.le_of_ble_eq_true rfl⟩) ⟨fun a U g mk q => by obtain ⟨q0, q1, qP, qK, qD⟩ := q; exact ⟨q0, q1, qP, va_K.moved (u := U) (U := U.calling g mk a) (Vm.Alike.refl U.vm) qK, qD⟩, fun U hU hW => ⟨rfl, by rw [hU], by rw [hU]; exact hPc, va_K.moved hW.alike hKc, hDc.weaken (fun _ _ _ _ => trivial)⟩⟩ rfl rfl hl.1 rfl (lv_room (Nat.le_of_ble_eq_true rfl)) dX12_readName_16 ⟨by decide, by decide⟩) hS (fun q _ h => hFc q h) hFc (fun r11 u12 t H1 locs ht hvm hw hB hz1 hk1 hS => ?_)
  have hw : iv r11 0 1 ∧ (97 * r11.toInt ≤ r7.toInt + 2147483648 * (1 - r11.toInt)) ∧ (r7.toInt ≤ 122 * r11.toInt + 2147483647 * (1 - r11.toInt)) ∧ (r11.toInt = 1 ∨ r7.toInt < 97 ∨ 122 < r7.toInt) ∧ True := hw
  obtain ⟨ir11, op13, op14, op15, -⟩ := hw
  obtain ⟨hP1, hK1, hD1⟩ := hB
  rw [ht] at hP1
  have hK1 := va_K.moved hvm.symm hK1
  obtain ⟨hP, hD⟩ := nv_join (wf := [(h0, .inr (12, .int x0 :: .ref h1 :: .ref h2 :: .int x1 :: .int x2 :: .int x3 :: .int x4 :: .int x5 :: .int x6 :: .int x7 :: .int x8 :: .int x9 :: [.int x10, .int x11, .int x12, .int x13, .int x14, .int x15, .ref h3, .ref h4, .ref h5, .ref h6, .int x16, .int x17, .int x18, .int x19, .int x20, .int x21, .int x22, .int x23, .ref h7, .int x24, .int x25, .int u3_0, .int x27, .ref h8, .ref h9, .int x28, .int x29, .long z0, .int u3_0, .int x31, .ref h10, .ref h11, .ref h12, .ref h13, .ref h14, .int x32, .int x33, .int x34, .int x35, .int x36, .int x37, .int x38, .int x39, .int x40, .ref h15, .ref h16, .int x41, .int x42, .int x43, .int x44, .int x45, .int x46, .int x47, .int x48, .ref h17, .int x49, .int x50, .int x51, .int x52, .int x53])), (h7, .inl (y0, 2600, .inl f0))]) hP hD [] [0, 1] rfl rfl (by decide) (by decide) hk1 hFc hP1 hD1 rfl
  have hK := (hK.sub (tys' := [(y0, .byte)]) [0] rfl).app hK1
  generalize H1 = H at hP hS ⊢
  have hK : va_K (dC, dI) vwCl [(y0, .byte)] s := hK
  clear hKc hPc hDc hFc hP1 hD1 hK1 hk1 hz1
  refine lv_if_ne (tgt := 32) hx hb dX12_readName_19 (by decide) (fun c16 => ?_) (fun c16 => ?_)
  · skip
    have j17 : iv r11 1 1 := iv_neLo ir11 (by decide : iv 0 0 0) c16 (by decide)
    refine lv_iconst (v := 0) hx hb dX12_readName_32 (by decide) ?_
    refine lv_istore_n (lv' := [(1, .int 0), (0, .ref h0)]) hx hb dX12_readName_33 rfl hl (by decide) rfl (fun ls hl => ?_)
    refine lv_aload_n hx hb dX12_readName_34 rfl (lv_at hl 1 rfl) ?_
    refine lv_lconst (v := 0) hx hb dX12_readName_35 (by decide) ?_
    refine va_put (D := (dC, dI)) (ci := 12) (v := .long 0) (ty := .long) (C := RX12) (T := TX12) (N := 72) hx hb hG inGX12 tyX12 tyX12_ok nmX12 hown hK hP hD hS 0 rfl rfl 39 (by decide) (hG _ wd_1346) (fun _ h9 => h9) rfl (by decide +kernel) rfl rfl (Nat.le_of_ble_eq_true rfl) dX12_readName_36 (fun H locs hP hD hS => ?_)
    obtain ⟨hP, hD⟩ := nv_eq (ws' := [(h0, .inr (12, .int x0 :: .ref h1 :: .ref h2 :: .int x1 :: .int x2 :: .int x3 :: .int x4 :: .int x5 :: .int x6 :: .int x7 :: .int x8 :: .int x9 :: [.int x10, .int x11, .int x12, .int x13, .int x14, .int x15, .ref h3, .ref h4, .ref h5, .ref h6, .int x16, .int x17, .int x18, .int x19, .int x20, .int x21, .int x22, .int x23, .ref h7, .int x24, .int x25, .int u3_0, .int x27, .ref h8, .ref h9, .int x28, .int x29, .long 0, .int u3_0, .int x31, .ref h10, .ref h11, .ref h12, .ref h13, .ref h14, .int x32, .int x33, .int x34, .int x35, .int x36, .int x37, .int x38, .int x39, .int x40, .ref h15, .ref h16, .int x41, .int x42, .int x43, .int x44, .int x45, .int x46, .int x47, .int x48, .ref h17, .int x49, .int x50, .int x51, .int x52, .int x53])), (h7, .inl (y0, 2600, .inl f0))]) hP hD rfl
    refine lv_aload_n hx hb dX12_readName_39 rfl (lv_at hl 1 rfl) ?_
    obtain ⟨hPc, hDc, hFc⟩ := nv_sub3 (wc := [(h0, .inr (12, .int x0 :: .ref h1 :: .ref h2 :: .int x1 :: .int x2 :: .int x3 :: .int x4 :: .int x5 :: .int x6 :: .int x7 :: .int x8 :: .int x9 :: [.int x10, .int x11, .int x12, .int x13, .int x14, .int x15, .ref h3, .ref h4, .ref h5, .ref h6, .int x16, .int x17, .int x18, .int x19, .int x20, .int x21, .int x22, .int x23, .ref h7, .int x24, .int x25, .int u3_0, .int x27, .ref h8, .ref h9, .int x28, .int x29, .long 0, .int u3_0, .int x31, .ref h10, .ref h11, .ref h12, .ref h13, .ref h14, .int x32, .int x33, .int x34, .int x35, .int x36, .int x37, .int x38, .int x39, .int x40, .ref h15, .ref h16, .int x41, .int x42, .int x43, .int x44, .int x45, .int x46, .int x47, .int x48, .ref h17, .int x49, .int x50, .int x51, .int x52, .int x53])), (h7, .inl (y0, 2600, .inl f0))]) hP hD hS hA [0, 1] (by decide) rfl
    have hKc := hK.sub (tys' := [(y0, .byte)]) [0] rfl
    have oh18 : u3_0.toInt ≤ x27.toInt := by omega
    refine va_calli (va_runV (As := []) (rest := []) ⟨hx, hb, hml, hown, hG⟩ (cX12_peek__1 l dC dI h0 h1 h2 h3 h4 h5 h6 h7 h8 h9 h10 h11 h12 h13 h14 h15 h16 h17 y0 H.size x0 x1 x2 x3 x4 x5 x6 x7 x8 x9 x10 x11 x12 x13 x14 x15 x16 x17 x18 x19 x20 x21 x22 x23 x24 x25 u3_0 x27 x28 x29 u3_0 x31 x32 x33 x34 x35 x36 x37 x38 x39 x40 x41 x42 x43 x44 x45 x46 x47 x48 x49 x50 x51 x52 x53 0 f0 ix15 ix16 ix21 ix22 ix23 ix24 ix25 iu3_0 ix27 ix31 ix32 ix33 ix34 ix35 ix36 ix41 ix42 ix46 ix47 ix49 ix53 if0 oh18) (cwV 0 hG (gV wd_1720 wd_1722 wp_99 wd_17 wd_1723) rfl rfl rfl (by decide +kernel) ⟨Nat.le_of_ble_eq_true rfl, Nat.le_of_ble_eq_true rfl⟩) ⟨fun a U g mk q => by obtain ⟨q0, q1, qP, qK, qD⟩ := q; exact ⟨q0, q1, qP, va_K.moved (u := U) (U := U.calling g mk a) (Vm.Alike.refl U.vm) qK, qD⟩, va_recv hKc hPc (ci := 12) (q0 := 0) rfl rfl, fun U hU hW => ⟨rfl, by rw [hU], by rw [hU]; exact hPc, va_K.moved hW.alike hKc, hDc.weaken (fun _ _ _ _ => trivial)⟩⟩ rfl rfl hl.1 rfl (lv_room (Nat.le_of_ble_eq_true rfl)) dX12_readName_40 ⟨by decide, by decide⟩) hS (fun q _ h => hFc q h) hFc (fun r19 u20 t H1 locs ht hvm hw hB hz1 hk1 hS => ?_)
    have hw : iv r19 (-1) 255 ∧ (256 * (u3_0.toInt + 1 - x27.toInt) ≤ 255 - r19.toInt) ∧ (r19.toInt = (pkf u3_0 x27 f0).toInt) ∧ True := hw
    obtain ⟨ir19, op21, op22, -⟩ := hw
    obtain ⟨hP1, hK1, hD1⟩ := hB
    rw [ht] at hP1
    have hK1 := va_K.moved hvm.symm hK1
    obtain ⟨hP, hD⟩ := nv_join (wf := [(h0, .inr (12, .int x0 :: .ref h1 :: .ref h2 :: .int x1 :: .int x2 :: .int x3 :: .int x4 :: .int x5 :: .int x6 :: .int x7 :: .int x8 :: .int x9 :: [.int x10, .int x11, .int x12, .int x13, .int x14, .int x15, .ref h3, .ref h4, .ref h5, .ref h6, .int x16, .int x17, .int x18, .int x19, .int x20, .int x21, .int x22, .int x23, .ref h7, .int x24, .int x25, .int u3_0, .int x27, .ref h8, .ref h9, .int x28, .int x29, .long 0, .int u3_0, .int x31, .ref h10, .ref h11, .ref h12, .ref h13, .ref h14, .int x32, .int x33, .int x34, .int x35, .int x36, .int x37, .int x38, .int x39, .int x40, .ref h15, .ref h16, .int x41, .int x42, .int x43, .int x44, .int x45, .int x46, .int x47, .int x48, .ref h17, .int x49, .int x50, .int x51, .int x52, .int x53])), (h7, .inl (y0, 2600, .inl f0))]) hP hD [0, 1] [] rfl rfl (by decide) (by decide) hk1 hFc hP1 hD1 rfl
    have hK := (hK.sub (tys' := []) [] rfl).app hK1
    generalize H1 = H at hP hS ⊢
    have hK : va_K (dC, dI) vwCl [(y0, .byte)] s := hK
    clear hKc hPc hDc hFc hP1 hD1 hK1 hk1 hz1
    obtain ⟨hPc, hDc, hFc⟩ := nv_sub3 (wc := []) hP hD hS hA [] (by decide) rfl
    have hKc := hK.sub (tys' := []) [] rfl
    refine va_calli (va_runS (As := [.int r19]) (rest := []) ⟨hx, hb, hml, hown, hG⟩ (cX12_isSmall_1 l dC dI H.size r19) (va_cwS 1 hG (gS wd_1728 wd_1729 wd_17 wd_1730) rfl rfl rfl (by decide +kernel) ⟨Nat.le_of_ble_eq_true rfl, Nat.le_of_ble_eq_true rfl⟩) ⟨fun a U g mk q => by obtain ⟨q0, q1, qP, qK, qD⟩ := q; exact ⟨q0, q1, qP, va_K.moved (u := U) (U := U.calling g mk a) (Vm.Alike.refl U.vm) qK, qD⟩, fun U hU hW => ⟨rfl, by rw [hU], by rw [hU]; exact hPc, va_K.moved hW.alike hKc, hDc.weaken (fun _ _ _ _ => trivial)⟩⟩ rfl rfl hl.1 rfl (lv_room (Nat.le_of_ble_eq_true rfl)) dX12_readName_43 ⟨by decide, by decide⟩) hS (fun q _ h => hFc q h) hFc (fun r23 u24 t H1 locs ht hvm hw hB hz1 hk1 hS => ?_)
    have hw : iv r23 0 1 ∧ (97 * r23.toInt ≤ r19.toInt + 2147483648 * (1 - r23.toInt)) ∧ (r19.toInt ≤ 122 * r23.toInt + 2147483647 * (1 - r23.toInt)) ∧ (r23.toInt = 1 ∨ r19.toInt < 97 ∨ 122 < r19.toInt) ∧ True := hw
    obtain ⟨ir23, op25, op26, op27, -⟩ := hw
    obtain ⟨hP1, hK1, hD1⟩ := hB
    rw [ht] at hP1
    have hK1 := va_K.moved hvm.symm hK1
    obtain ⟨hP, hD⟩ := nv_join (wf := [(h0, .inr (12, .int x0 :: .ref h1 :: .ref h2 :: .int x1 :: .int x2 :: .int x3 :: .int x4 :: .int x5 :: .int x6 :: .int x7 :: .int x8 :: .int x9 :: [.int x10, .int x11, .int x12, .int x13, .int x14, .int x15, .ref h3, .ref h4, .ref h5, .ref h6, .int x16, .int x17, .int x18, .int x19, .int x20, .int x21, .int x22, .int x23, .ref h7, .int x24, .int x25, .int u3_0, .int x27, .ref h8, .ref h9, .int x28, .int x29, .long 0, .int u3_0, .int x31, .ref h10, .ref h11, .ref h12, .ref h13, .ref h14, .int x32, .int x33, .int x34, .int x35, .int x36, .int x37, .int x38, .int x39, .int x40, .ref h15, .ref h16, .int x41, .int x42, .int x43, .int x44, .int x45, .int x46, .int x47, .int x48, .ref h17, .int x49, .int x50, .int x51, .int x52, .int x53])), (h7, .inl (y0, 2600, .inl f0))]) hP hD [] [0, 1] rfl rfl (by decide) (by decide) hk1 hFc hP1 hD1 rfl
    have hK := (hK.sub (tys' := [(y0, .byte)]) [0] rfl).app hK1
    generalize H1 = H at hP hS ⊢
    have hK : va_K (dC, dI) vwCl [(y0, .byte)] s := hK
    clear hKc hPc hDc hFc hP1 hD1 hK1 hk1 hz1
    have kc0 : (0 : Int32).toInt = 0 := by decide
    have tr28 : ¬ r23 = 0 := fun z9 => by have z8 := congrArg Int32.toInt z9; omega
    refine lv_if_ne (tgt := 59) hx hb dX12_readName_46 (by decide) (fun _ => ?_) (fun c => absurd c tr28)
    refine lv_iload_n hx hb dX12_readName_59 rfl (lv_at hl 0 rfl) ?_
    refine lv_bipush (v := 8) hx hb dX12_readName_60 (by decide) ?_
    refine lv_icmp_ge (tgt := 82) hx hb dX12_readName_62 (by decide) (fun c => absurd c (by decide)) (fun _ => ?_)
    refine lv_aload_n hx hb dX12_readName_65 rfl (lv_at hl 1 rfl) ?_
    refine lv_aload_n hx hb dX12_readName_66 rfl (lv_at hl 1 rfl) ?_
    refine va_get (D := (dC, dI)) (ci := 12) (v := .long 0) (C := RX12) (T := TX12) (N := 72) hx hb hG inGX12 hown hK hP 0 rfl rfl 39 (by decide) (hG _ wd_1346) (fun _ h9 => h9) rfl dX12_readName_67 ?_
    refine lv_bipush (v := 8) hx hb dX12_readName_70 (by decide) ?_
    refine lv_lshl (v := _) hx hb dX12_readName_72 rfl ?_
    refine lv_valL (y := 0) (by decide +kernel) ?_
    refine lv_aload_n hx hb dX12_readName_73 rfl (lv_at hl 1 rfl) ?_
    obtain ⟨hPc, hDc, hFc⟩ := nv_sub3 (wc := [(h0, .inr (12, .int x0 :: .ref h1 :: .ref h2 :: .int x1 :: .int x2 :: .int x3 :: .int x4 :: .int x5 :: .int x6 :: .int x7 :: .int x8 :: .int x9 :: [.int x10, .int x11, .int x12, .int x13, .int x14, .int x15, .ref h3, .ref h4, .ref h5, .ref h6, .int x16, .int x17, .int x18, .int x19, .int x20, .int x21, .int x22, .int x23, .ref h7, .int x24, .int x25, .int u3_0, .int x27, .ref h8, .ref h9, .int x28, .int x29, .long 0, .int u3_0, .int x31, .ref h10, .ref h11, .ref h12, .ref h13, .ref h14, .int x32, .int x33, .int x34, .int x35, .int x36, .int x37, .int x38, .int x39, .int x40, .ref h15, .ref h16, .int x41, .int x42, .int x43, .int x44, .int x45, .int x46, .int x47, .int x48, .ref h17, .int x49, .int x50, .int x51, .int x52, .int x53])), (h7, .inl (y0, 2600, .inl f0))]) hP hD hS hA [0, 1] (by decide) rfl
    have hKc := hK.sub (tys' := [(y0, .byte)]) [0] rfl
    have oh29 : u3_0.toInt ≤ x27.toInt := by omega
    refine va_calli (va_runV (As := []) (rest := [.long 0, .ref h0]) ⟨hx, hb, hml, hown, hG⟩ (cX12_peek__1 l dC dI h0 h1 h2 h3 h4 h5 h6 h7 h8 h9 h10 h11 h12 h13 h14 h15 h16 h17 y0 H.size x0 x1 x2 x3 x4 x5 x6 x7 x8 x9 x10 x11 x12 x13 x14 x15 x16 x17 x18 x19 x20 x21 x22 x23 x24 x25 u3_0 x27 x28 x29 u3_0 x31 x32 x33 x34 x35 x36 x37 x38 x39 x40 x41 x42 x43 x44 x45 x46 x47 x48 x49 x50 x51 x52 x53 0 f0 ix15 ix16 ix21 ix22 ix23 ix24 ix25 iu3_0 ix27 ix31 ix32 ix33 ix34 ix35 ix36 ix41 ix42 ix46 ix47 ix49 ix53 if0 oh29) (cwV 0 hG (gV wd_1720 wd_1722 wp_99 wd_17 wd_1723) rfl rfl rfl (by decide +kernel) ⟨Nat.le_of_ble_eq_true rfl, Nat.le_of_ble_eq_true rfl⟩) ⟨fun a U g mk q => by obtain ⟨q0, q1, qP, qK, qD⟩ := q; exact ⟨q0, q1, qP, va_K.moved (u := U) (U := U.calling g mk a) (Vm.Alike.refl U.vm) qK, qD⟩, va_recv hKc hPc (ci := 12) (q0 := 0) rfl rfl, fun U hU hW => ⟨rfl, by rw [hU], by rw [hU]; exact hPc, va_K.moved hW.alike hKc, hDc.weaken (fun _ _ _ _ => trivial)⟩⟩ rfl rfl hl.1 rfl (lv_room (Nat.le_of_ble_eq_true rfl)) dX12_readName_74 ⟨by decide, by decide⟩) hS (fun q _ h => hFc q h) hFc (fun r30 u31 t H1 locs ht hvm hw hB hz1 hk1 hS => ?_)
    have hw : iv r30 (-1) 255 ∧ (256 * (u3_0.toInt + 1 - x27.toInt) ≤ 255 - r30.toInt) ∧ (r30.toInt = (pkf u3_0 x27 f0).toInt) ∧ True := hw
    obtain ⟨ir30, op32, op33, -⟩ := hw
    obtain ⟨hP1, hK1, hD1⟩ := hB
    rw [ht] at hP1
    have hK1 := va_K.moved hvm.symm hK1
    obtain ⟨hP, hD⟩ := nv_join (wf := [(h0, .inr (12, .int x0 :: .ref h1 :: .ref h2 :: .int x1 :: .int x2 :: .int x3 :: .int x4 :: .int x5 :: .int x6 :: .int x7 :: .int x8 :: .int x9 :: [.int x10, .int x11, .int x12, .int x13, .int x14, .int x15, .ref h3, .ref h4, .ref h5, .ref h6, .int x16, .int x17, .int x18, .int x19, .int x20, .int x21, .int x22, .int x23, .ref h7, .int x24, .int x25, .int u3_0, .int x27, .ref h8, .ref h9, .int x28, .int x29, .long 0, .int u3_0, .int x31, .ref h10, .ref h11, .ref h12, .ref h13, .ref h14, .int x32, .int x33, .int x34, .int x35, .int x36, .int x37, .int x38, .int x39, .int x40, .ref h15, .ref h16, .int x41, .int x42, .int x43, .int x44, .int x45, .int x46, .int x47, .int x48, .ref h17, .int x49, .int x50, .int x51, .int x52, .int x53])), (h7, .inl (y0, 2600, .inl f0))]) hP hD [0, 1] [] rfl rfl (by decide) (by decide) hk1 hFc hP1 hD1 rfl
    have hK := (hK.sub (tys' := []) [] rfl).app hK1
    generalize H1 = H at hP hS ⊢
    have hK : va_K (dC, dI) vwCl [(y0, .byte)] s := hK
    clear hKc hPc hDc hFc hP1 hD1 hK1 hk1 hz1
    refine lv_i2l (v := _) hx hb dX12_readName_77 rfl ?_
    refine lv_topl (fun w34 ew34 => ?_)
    refine lv_lor hx hb dX12_readName_78 ?_
    refine lv_topl (fun w35 ew35 => ?_)
    refine va_put (D := (dC, dI)) (ci := 12) (v := .long w35) (ty := .long) (C := RX12) (T := TX12) (N := 72) hx hb hG inGX12 tyX12 tyX12_ok nmX12 hown hK hP hD hS 0 rfl rfl 39 (by decide) (hG _ wd_1346) (fun _ h9 => h9) rfl (by decide +kernel) rfl rfl (Nat.le_of_ble_eq_true rfl) dX12_readName_79 (fun H locs hP hD hS => ?_)
    obtain ⟨hP, hD⟩ := nv_eq (ws' := [(h0, .inr (12, .int x0 :: .ref h1 :: .ref h2 :: .int x1 :: .int x2 :: .int x3 :: .int x4 :: .int x5 :: .int x6 :: .int x7 :: .int x8 :: .int x9 :: [.int x10, .int x11, .int x12, .int x13, .int x14, .int x15, .ref h3, .ref h4, .ref h5, .ref h6, .int x16, .int x17, .int x18, .int x19, .int x20, .int x21, .int x22, .int x23, .ref h7, .int x24, .int x25, .int u3_0, .int x27, .ref h8, .ref h9, .int x28, .int x29, .long w35, .int u3_0, .int x31, .ref h10, .ref h11, .ref h12, .ref h13, .ref h14, .int x32, .int x33, .int x34, .int x35, .int x36, .int x37, .int x38, .int x39, .int x40, .ref h15, .ref h16, .int x41, .int x42, .int x43, .int x44, .int x45, .int x46, .int x47, .int x48, .ref h17, .int x49, .int x50, .int x51, .int x52, .int x53])), (h7, .inl (y0, 2600, .inl f0))]) hP hD rfl
    refine lv_iinc (v := 1) (lv' := [(1, .int 1), (0, .ref h0)]) hx hb dX12_readName_82 hl (k := 0) rfl (by decide) (by decide) rfl (fun ls hl => ?_)
    refine lv_aload_n hx hb dX12_readName_85 rfl (lv_at hl 1 rfl) ?_
    refine lv_dup hx hb dX12_readName_86 rfl ?_
    refine va_get (D := (dC, dI)) (ci := 12) (v := .int u3_0) (C := RX12) (T := TX12) (N := 72) hx hb hG inGX12 hown hK hP 0 rfl rfl 33 (by decide) (hG _ wd_1340) (fun _ h9 => h9) rfl dX12_readName_87 ?_
    refine lv_iconst (v := 1) hx hb dX12_readName_90 (by decide) ?_
    refine lv_iadd hx hb dX12_readName_91 ?_
    refine lv_topi (fun v36 ev36 => ?_)
    have iv36 : iv v36 1 2501 := iv_eq ev36 (iv_add iu3_0 (by decide : iv 1 1 1) (by decide) (by decide))
    have tv36 : v36.toInt = u3_0.toInt + 1 := iv_addT ev36 iu3_0 (by decide) (by decide) (by decide)
    have j37 : iv v36 1 2500 := ⟨by omega, by omega⟩
    refine va_put (D := (dC, dI)) (ci := 12) (v := .int v36) (ty := .int) (C := RX12) (T := TX12) (N := 72) hx hb hG inGX12 tyX12 tyX12_ok nmX12 hown hK hP hD hS 0 rfl rfl 33 (by decide) (hG _ wd_1340) (fun _ h9 => h9) rfl (by decide +kernel) rfl rfl (Nat.le_of_ble_eq_true rfl) dX12_readName_92 (fun H locs hP hD hS => ?_)
    obtain ⟨hP, hD⟩ := nv_eq (ws' := [(h0, .inr (12, .int x0 :: .ref h1 :: .ref h2 :: .int x1 :: .int x2 :: .int x3 :: .int x4 :: .int x5 :: .int x6 :: .int x7 :: .int x8 :: .int x9 :: [.int x10, .int x11, .int x12, .int x13, .int x14, .int x15, .ref h3, .ref h4, .ref h5, .ref h6, .int x16, .int x17, .int x18, .int x19, .int x20, .int x21, .int x22, .int x23, .ref h7, .int x24, .int x25, .int v36, .int x27, .ref h8, .ref h9, .int x28, .int x29, .long w35, .int u3_0, .int x31, .ref h10, .ref h11, .ref h12, .ref h13, .ref h14, .int x32, .int x33, .int x34, .int x35, .int x36, .int x37, .int x38, .int x39, .int x40, .ref h15, .ref h16, .int x41, .int x42, .int x43, .int x44, .int x45, .int x46, .int x47, .int x48, .ref h17, .int x49, .int x50, .int x51, .int x52, .int x53])), (h7, .inl (y0, 2600, .inl f0))]) hP hD rfl
    refine lv_goto (tgt := 39) hx hb dX12_readName_95 (by decide) ?_
    refine jcut (a := ∀ (n : Nat) (b4020 : Int32) (b4021 : Int32) (b4022 : Int64) (ib4021 : iv b4021 1 2500) (o4023 : x26.toInt ≤ b4021.toInt) (o4024 : b4021.toInt ≤ x27.toInt) (o4025 : x26.toInt + 1 ≤ b4021.toInt) (hm : (2501 - b4021.toInt).toNat < n) (H : Heap) (locs : List Loc) (hK : va_K (dC, dI) vwCl [(y0, .byte)] s) (hP : va_P (dC, dI) vwCl [(h0, .inr (12, .int x0 :: .ref h1 :: .ref h2 :: .int x1 :: .int x2 :: .int x3 :: .int x4 :: .int x5 :: .int x6 :: .int x7 :: .int x8 :: .int x9 :: [.int x10, .int x11, .int x12, .int x13, .int x14, .int x15, .ref h3, .ref h4, .ref h5, .ref h6, .int x16, .int x17, .int x18, .int x19, .int x20, .int x21, .int x22, .int x23, .ref h7, .int x24, .int x25, .int b4021, .int x27, .ref h8, .ref h9, .int x28, .int x29, .long b4022, .int u3_0, .int x31, .ref h10, .ref h11, .ref h12, .ref h13, .ref h14, .int x32, .int x33, .int x34, .int x35, .int x36, .int x37, .int x38, .int x39, .int x40, .ref h15, .ref h16, .int x41, .int x42, .int x43, .int x44, .int x45, .int x46, .int x47, .int x48, .ref h17, .int x49, .int x50, .int x51, .int x52, .int x53])), (h7, .inl (y0, 2600, .inl f0))] H) (hD : va_D A [(h0, .inr (12, .int x0 :: .ref h1 :: .ref h2 :: .int x1 :: .int x2 :: .int x3 :: .int x4 :: .int x5 :: .int x6 :: .int x7 :: .int x8 :: .int x9 :: [.int x10, .int x11, .int x12, .int x13, .int x14, .int x15, .ref h3, .ref h4, .ref h5, .ref h6, .int x16, .int x17, .int x18, .int x19, .int x20, .int x21, .int x22, .int x23, .ref h7, .int x24, .int x25, .int b4021, .int x27, .ref h8, .ref h9, .int x28, .int x29, .long b4022, .int u3_0, .int x31, .ref h10, .ref h11, .ref h12, .ref h13, .ref h14, .int x32, .int x33, .int x34, .int x35, .int x36, .int x37, .int x38, .int x39, .int x40, .ref h15, .ref h16, .int x41, .int x42, .int x43, .int x44, .int x45, .int x46, .int x47, .int x48, .ref h17, .int x49, .int x50, .int x51, .int x52, .int x53])), (h7, .inl (y0, 2600, .inl f0))]) (hS : va_S A s.heap H locs) (ls : Array Slot) (hl : lv_has ls 2 [(1, .int b4020), (0, .ref h0)]), W p l e (headSpec (Cond.code yX12_readName cX12_readName 2 (some .boolean) :: lw_G) ({ frames := 2, cells := 0, slots := 0, locals := 40 })).room s m ar below meth c H locs 0 0 Q (F0 m 39 ls [])) ?_ (fun lp4097 => ?_)
    · skip
      intro n
      induction n with
      | zero => intro b4020 b4021 b4022 ib4021 o4023 o4024 o4025 hm H locs hK hP hD hS ls hl; exact absurd hm (Nat.not_lt_zero _)
      | succ n ih =>
        intro b4020 b4021 b4022 ib4021 o4023 o4024 o4025 hm H locs hK hP hD hS ls hl
        refine lv_aload_n hx hb dX12_readName_39 rfl (lv_at hl 1 rfl) ?_
        obtain ⟨hPc, hDc, hFc⟩ := nv_sub3 (wc := [(h0, .inr (12, .int x0 :: .ref h1 :: .ref h2 :: .int x1 :: .int x2 :: .int x3 :: .int x4 :: .int x5 :: .int x6 :: .int x7 :: .int x8 :: .int x9 :: [.int x10, .int x11, .int x12, .int x13, .int x14, .int x15, .ref h3, .ref h4, .ref h5, .ref h6, .int x16, .int x17, .int x18, .int x19, .int x20, .int x21, .int x22, .int x23, .ref h7, .int x24, .int x25, .int b4021, .int x27, .ref h8, .ref h9, .int x28, .int x29, .long b4022, .int u3_0, .int x31, .ref h10, .ref h11, .ref h12, .ref h13, .ref h14, .int x32, .int x33, .int x34, .int x35, .int x36, .int x37, .int x38, .int x39, .int x40, .ref h15, .ref h16, .int x41, .int x42, .int x43, .int x44, .int x45, .int x46, .int x47, .int x48, .ref h17, .int x49, .int x50, .int x51, .int x52, .int x53])), (h7, .inl (y0, 2600, .inl f0))]) hP hD hS hA [0, 1] (by decide) rfl
        have hKc := hK.sub (tys' := [(y0, .byte)]) [0] rfl
        have oh4098 : b4021.toInt ≤ x27.toInt := by omega
        refine va_calli (va_runV (As := []) (rest := []) ⟨hx, hb, hml, hown, hG⟩ (cX12_peek__1 l dC dI h0 h1 h2 h3 h4 h5 h6 h7 h8 h9 h10 h11 h12 h13 h14 h15 h16 h17 y0 H.size x0 x1 x2 x3 x4 x5 x6 x7 x8 x9 x10 x11 x12 x13 x14 x15 x16 x17 x18 x19 x20 x21 x22 x23 x24 x25 b4021 x27 x28 x29 u3_0 x31 x32 x33 x34 x35 x36 x37 x38 x39 x40 x41 x42 x43 x44 x45 x46 x47 x48 x49 x50 x51 x52 x53 b4022 f0 ix15 ix16 ix21 ix22 ix23 ix24 ix25 (iv_w ib4021 (by decide) (by decide)) ix27 ix31 ix32 ix33 ix34 ix35 ix36 ix41 ix42 ix46 ix47 ix49 ix53 if0 oh4098) (cwV 0 hG (gV wd_1720 wd_1722 wp_99 wd_17 wd_1723) rfl rfl rfl (by decide +kernel) ⟨Nat.le_of_ble_eq_true rfl, Nat.le_of_ble_eq_true rfl⟩) ⟨fun a U g mk q => by obtain ⟨q0, q1, qP, qK, qD⟩ := q; exact ⟨q0, q1, qP, va_K.moved (u := U) (U := U.calling g mk a) (Vm.Alike.refl U.vm) qK, qD⟩, va_recv hKc hPc (ci := 12) (q0 := 0) rfl rfl, fun U hU hW => ⟨rfl, by rw [hU], by rw [hU]; exact hPc, va_K.moved hW.alike hKc, hDc.weaken (fun _ _ _ _ => trivial)⟩⟩ rfl rfl hl.1 rfl (lv_room (Nat.le_of_ble_eq_true rfl)) dX12_readName_40 ⟨by decide, by decide⟩) hS (fun q _ h => hFc q h) hFc (fun r4099 u4100 t H1 locs ht hvm hw hB hz1 hk1 hS => ?_)
        have hw : iv r4099 (-1) 255 ∧ (256 * (b4021.toInt + 1 - x27.toInt) ≤ 255 - r4099.toInt) ∧ (r4099.toInt = (pkf b4021 x27 f0).toInt) ∧ True := hw
        obtain ⟨ir4099, op4101, op4102, -⟩ := hw
        obtain ⟨hP1, hK1, hD1⟩ := hB
        rw [ht] at hP1
        have hK1 := va_K.moved hvm.symm hK1
        obtain ⟨hP, hD⟩ := nv_join (wf := [(h0, .inr (12, .int x0 :: .ref h1 :: .ref h2 :: .int x1 :: .int x2 :: .int x3 :: .int x4 :: .int x5 :: .int x6 :: .int x7 :: .int x8 :: .int x9 :: [.int x10, .int x11, .int x12, .int x13, .int x14, .int x15, .ref h3, .ref h4, .ref h5, .ref h6, .int x16, .int x17, .int x18, .int x19, .int x20, .int x21, .int x22, .int x23, .ref h7, .int x24, .int x25, .int b4021, .int x27, .ref h8, .ref h9, .int x28, .int x29, .long b4022, .int u3_0, .int x31, .ref h10, .ref h11, .ref h12, .ref h13, .ref h14, .int x32, .int x33, .int x34, .int x35, .int x36, .int x37, .int x38, .int x39, .int x40, .ref h15, .ref h16, .int x41, .int x42, .int x43, .int x44, .int x45, .int x46, .int x47, .int x48, .ref h17, .int x49, .int x50, .int x51, .int x52, .int x53])), (h7, .inl (y0, 2600, .inl f0))]) hP hD [0, 1] [] rfl rfl (by decide) (by decide) hk1 hFc hP1 hD1 rfl
        have hK := (hK.sub (tys' := []) [] rfl).app hK1
        generalize H1 = H at hP hS ⊢
        have hK : va_K (dC, dI) vwCl [(y0, .byte)] s := hK
        clear hKc hPc hDc hFc hP1 hD1 hK1 hk1 hz1
        obtain ⟨hPc, hDc, hFc⟩ := nv_sub3 (wc := []) hP hD hS hA [] (by decide) rfl
        have hKc := hK.sub (tys' := []) [] rfl
        refine va_calli (va_runS (As := [.int r4099]) (rest := []) ⟨hx, hb, hml, hown, hG⟩ (cX12_isSmall_1 l dC dI H.size r4099) (va_cwS 1 hG (gS wd_1728 wd_1729 wd_17 wd_1730) rfl rfl rfl (by decide +kernel) ⟨Nat.le_of_ble_eq_true rfl, Nat.le_of_ble_eq_true rfl⟩) ⟨fun a U g mk q => by obtain ⟨q0, q1, qP, qK, qD⟩ := q; exact ⟨q0, q1, qP, va_K.moved (u := U) (U := U.calling g mk a) (Vm.Alike.refl U.vm) qK, qD⟩, fun U hU hW => ⟨rfl, by rw [hU], by rw [hU]; exact hPc, va_K.moved hW.alike hKc, hDc.weaken (fun _ _ _ _ => trivial)⟩⟩ rfl rfl hl.1 rfl (lv_room (Nat.le_of_ble_eq_true rfl)) dX12_readName_43 ⟨by decide, by decide⟩) hS (fun q _ h => hFc q h) hFc (fun r4103 u4104 t H1 locs ht hvm hw hB hz1 hk1 hS => ?_)
        have hw : iv r4103 0 1 ∧ (97 * r4103.toInt ≤ r4099.toInt + 2147483648 * (1 - r4103.toInt)) ∧ (r4099.toInt ≤ 122 * r4103.toInt + 2147483647 * (1 - r4103.toInt)) ∧ (r4103.toInt = 1 ∨ r4099.toInt < 97 ∨ 122 < r4099.toInt) ∧ True := hw
        obtain ⟨ir4103, op4105, op4106, op4107, -⟩ := hw
        obtain ⟨hP1, hK1, hD1⟩ := hB
        rw [ht] at hP1
        have hK1 := va_K.moved hvm.symm hK1
        obtain ⟨hP, hD⟩ := nv_join (wf := [(h0, .inr (12, .int x0 :: .ref h1 :: .ref h2 :: .int x1 :: .int x2 :: .int x3 :: .int x4 :: .int x5 :: .int x6 :: .int x7 :: .int x8 :: .int x9 :: [.int x10, .int x11, .int x12, .int x13, .int x14, .int x15, .ref h3, .ref h4, .ref h5, .ref h6, .int x16, .int x17, .int x18, .int x19, .int x20, .int x21, .int x22, .int x23, .ref h7, .int x24, .int x25, .int b4021, .int x27, .ref h8, .ref h9, .int x28, .int x29, .long b4022, .int u3_0, .int x31, .ref h10, .ref h11, .ref h12, .ref h13, .ref h14, .int x32, .int x33, .int x34, .int x35, .int x36, .int x37, .int x38, .int x39, .int x40, .ref h15, .ref h16, .int x41, .int x42, .int x43, .int x44, .int x45, .int x46, .int x47, .int x48, .ref h17, .int x49, .int x50, .int x51, .int x52, .int x53])), (h7, .inl (y0, 2600, .inl f0))]) hP hD [] [0, 1] rfl rfl (by decide) (by decide) hk1 hFc hP1 hD1 rfl
        have hK := (hK.sub (tys' := [(y0, .byte)]) [0] rfl).app hK1
        generalize H1 = H at hP hS ⊢
        have hK : va_K (dC, dI) vwCl [(y0, .byte)] s := hK
        clear hKc hPc hDc hFc hP1 hD1 hK1 hk1 hz1
        refine lv_if_ne (tgt := 59) hx hb dX12_readName_46 (by decide) (fun c4108 => ?_) (fun c4108 => ?_)
        · skip
          have j4126 : iv r4103 1 1 := iv_neLo ir4103 (by decide : iv 0 0 0) c4108 (by decide)
          refine lv_iload_n hx hb dX12_readName_59 rfl (lv_at hl 0 rfl) ?_
          refine lv_bipush (v := 8) hx hb dX12_readName_60 (by decide) ?_
          refine jcut (a := ∀ (b4138 : Int64) (H : Heap) (locs : List Loc) (hK : va_K (dC, dI) vwCl [(y0, .byte)] s) (hP : va_P (dC, dI) vwCl [(h0, .inr (12, .int x0 :: .ref h1 :: .ref h2 :: .int x1 :: .int x2 :: .int x3 :: .int x4 :: .int x5 :: .int x6 :: .int x7 :: .int x8 :: .int x9 :: [.int x10, .int x11, .int x12, .int x13, .int x14, .int x15, .ref h3, .ref h4, .ref h5, .ref h6, .int x16, .int x17, .int x18, .int x19, .int x20, .int x21, .int x22, .int x23, .ref h7, .int x24, .int x25, .int b4021, .int x27, .ref h8, .ref h9, .int x28, .int x29, .long b4138, .int u3_0, .int x31, .ref h10, .ref h11, .ref h12, .ref h13, .ref h14, .int x32, .int x33, .int x34, .int x35, .int x36, .int x37, .int x38, .int x39, .int x40, .ref h15, .ref h16, .int x41, .int x42, .int x43, .int x44, .int x45, .int x46, .int x47, .int x48, .ref h17, .int x49, .int x50, .int x51, .int x52, .int x53])), (h7, .inl (y0, 2600, .inl f0))] H) (hD : va_D A [(h0, .inr (12, .int x0 :: .ref h1 :: .ref h2 :: .int x1 :: .int x2 :: .int x3 :: .int x4 :: .int x5 :: .int x6 :: .int x7 :: .int x8 :: .int x9 :: [.int x10, .int x11, .int x12, .int x13, .int x14, .int x15, .ref h3, .ref h4, .ref h5, .ref h6, .int x16, .int x17, .int x18, .int x19, .int x20, .int x21, .int x22, .int x23, .ref h7, .int x24, .int x25, .int b4021, .int x27, .ref h8, .ref h9, .int x28, .int x29, .long b4138, .int u3_0, .int x31, .ref h10, .ref h11, .ref h12, .ref h13, .ref h14, .int x32, .int x33, .int x34, .int x35, .int x36, .int x37, .int x38, .int x39, .int x40, .ref h15, .ref h16, .int x41, .int x42, .int x43, .int x44, .int x45, .int x46, .int x47, .int x48, .ref h17, .int x49, .int x50, .int x51, .int x52, .int x53])), (h7, .inl (y0, 2600, .inl f0))]) (hS : va_S A s.heap H locs) (ls : Array Slot) (hl : lv_has ls 2 [(1, .int b4020), (0, .ref h0)]), W p l e (headSpec (Cond.code yX12_readName cX12_readName 2 (some .boolean) :: lw_G) ({ frames := 2, cells := 0, slots := 0, locals := 40 })).room s m ar below meth c H locs 0 0 Q (F0 m 82 ls [])) ?_ (fun j4139 => ?_)
          · skip
            intro b4138 H locs hK hP hD hS ls hl
            obtain ⟨v4140, ev4140⟩ : ∃ y : Int32, y = b4020 + Int32.ofInt 1 := ⟨_, rfl⟩
            refine lv_iinc (v := v4140) (lv' := [(1, .int v4140), (0, .ref h0)]) hx hb dX12_readName_82 hl (k := 0) rfl ev4140.symm (by decide) rfl (fun ls hl => ?_)
            refine lv_aload_n hx hb dX12_readName_85 rfl (lv_at hl 1 rfl) ?_
            refine lv_dup hx hb dX12_readName_86 rfl ?_
            refine va_get (D := (dC, dI)) (ci := 12) (v := .int b4021) (C := RX12) (T := TX12) (N := 72) hx hb hG inGX12 hown hK hP 0 rfl rfl 33 (by decide) (hG _ wd_1340) (fun _ h9 => h9) rfl dX12_readName_87 ?_
            refine lv_iconst (v := 1) hx hb dX12_readName_90 (by decide) ?_
            refine lv_iadd hx hb dX12_readName_91 ?_
            refine lv_topi (fun v4141 ev4141 => ?_)
            have iv4141 : iv v4141 2 2501 := iv_eq ev4141 (iv_add ib4021 (by decide : iv 1 1 1) (by decide) (by decide))
            have tv4141 : v4141.toInt = b4021.toInt + 1 := iv_addT ev4141 ib4021 (by decide) (by decide) (by decide)
            have j4142 : iv v4141 2 2500 := ⟨by omega, by omega⟩
            refine va_put (D := (dC, dI)) (ci := 12) (v := .int v4141) (ty := .int) (C := RX12) (T := TX12) (N := 72) hx hb hG inGX12 tyX12 tyX12_ok nmX12 hown hK hP hD hS 0 rfl rfl 33 (by decide) (hG _ wd_1340) (fun _ h9 => h9) rfl (by decide +kernel) rfl rfl (Nat.le_of_ble_eq_true rfl) dX12_readName_92 (fun H locs hP hD hS => ?_)
            obtain ⟨hP, hD⟩ := nv_eq (ws' := [(h0, .inr (12, .int x0 :: .ref h1 :: .ref h2 :: .int x1 :: .int x2 :: .int x3 :: .int x4 :: .int x5 :: .int x6 :: .int x7 :: .int x8 :: .int x9 :: [.int x10, .int x11, .int x12, .int x13, .int x14, .int x15, .ref h3, .ref h4, .ref h5, .ref h6, .int x16, .int x17, .int x18, .int x19, .int x20, .int x21, .int x22, .int x23, .ref h7, .int x24, .int x25, .int v4141, .int x27, .ref h8, .ref h9, .int x28, .int x29, .long b4138, .int u3_0, .int x31, .ref h10, .ref h11, .ref h12, .ref h13, .ref h14, .int x32, .int x33, .int x34, .int x35, .int x36, .int x37, .int x38, .int x39, .int x40, .ref h15, .ref h16, .int x41, .int x42, .int x43, .int x44, .int x45, .int x46, .int x47, .int x48, .ref h17, .int x49, .int x50, .int x51, .int x52, .int x53])), (h7, .inl (y0, 2600, .inl f0))]) hP hD rfl
            refine lv_goto (tgt := 39) hx hb dX12_readName_95 (by decide) ?_
            have oh4143 : x26.toInt ≤ v4141.toInt := by omega
            have oh4144 : v4141.toInt ≤ x27.toInt := by omega
            have oh4145 : x26.toInt + 1 ≤ v4141.toInt := by omega
            exact ih v4140 v4141 b4138 (iv_w j4142 (by decide) (by decide)) oh4143 oh4144 oh4145 (by omega) _ _ hK hP hD hS ls hl
          refine lv_icmp_ge (tgt := 82) hx hb dX12_readName_62 (by decide) (fun c4127 => ?_) (fun c4127 => ?_)
          · skip
            have j4146 : iv b4020 8 2147483647 := iv_leR (by decide : iv 8 8 8) (iv_any b4020) c4127 (by decide)
            exact j4139 b4022 _ _ hK hP hD hS ls hl
          · skip
            have j4147 : iv b4020 (-2147483648) 7 := iv_nleR (by decide : iv 8 8 8) (iv_any b4020) c4127 (by decide)
            refine lv_aload_n hx hb dX12_readName_65 rfl (lv_at hl 1 rfl) ?_
            refine lv_aload_n hx hb dX12_readName_66 rfl (lv_at hl 1 rfl) ?_
            refine va_get (D := (dC, dI)) (ci := 12) (v := .long b4022) (C := RX12) (T := TX12) (N := 72) hx hb hG inGX12 hown hK hP 0 rfl rfl 39 (by decide) (hG _ wd_1346) (fun _ h9 => h9) rfl dX12_readName_67 ?_
            refine lv_bipush (v := 8) hx hb dX12_readName_70 (by decide) ?_
            refine lv_lshl (v := _) hx hb dX12_readName_72 rfl ?_
            refine lv_topl (fun w4148 ew4148 => ?_)
            refine lv_aload_n hx hb dX12_readName_73 rfl (lv_at hl 1 rfl) ?_
            obtain ⟨hPc, hDc, hFc⟩ := nv_sub3 (wc := [(h0, .inr (12, .int x0 :: .ref h1 :: .ref h2 :: .int x1 :: .int x2 :: .int x3 :: .int x4 :: .int x5 :: .int x6 :: .int x7 :: .int x8 :: .int x9 :: [.int x10, .int x11, .int x12, .int x13, .int x14, .int x15, .ref h3, .ref h4, .ref h5, .ref h6, .int x16, .int x17, .int x18, .int x19, .int x20, .int x21, .int x22, .int x23, .ref h7, .int x24, .int x25, .int b4021, .int x27, .ref h8, .ref h9, .int x28, .int x29, .long b4022, .int u3_0, .int x31, .ref h10, .ref h11, .ref h12, .ref h13, .ref h14, .int x32, .int x33, .int x34, .int x35, .int x36, .int x37, .int x38, .int x39, .int x40, .ref h15, .ref h16, .int x41, .int x42, .int x43, .int x44, .int x45, .int x46, .int x47, .int x48, .ref h17, .int x49, .int x50, .int x51, .int x52, .int x53])), (h7, .inl (y0, 2600, .inl f0))]) hP hD hS hA [0, 1] (by decide) rfl
            have hKc := hK.sub (tys' := [(y0, .byte)]) [0] rfl
            have oh4149 : b4021.toInt ≤ x27.toInt := by omega
            refine va_calli (va_runV (As := []) (rest := [.long w4148, .ref h0]) ⟨hx, hb, hml, hown, hG⟩ (cX12_peek__1 l dC dI h0 h1 h2 h3 h4 h5 h6 h7 h8 h9 h10 h11 h12 h13 h14 h15 h16 h17 y0 H.size x0 x1 x2 x3 x4 x5 x6 x7 x8 x9 x10 x11 x12 x13 x14 x15 x16 x17 x18 x19 x20 x21 x22 x23 x24 x25 b4021 x27 x28 x29 u3_0 x31 x32 x33 x34 x35 x36 x37 x38 x39 x40 x41 x42 x43 x44 x45 x46 x47 x48 x49 x50 x51 x52 x53 b4022 f0 ix15 ix16 ix21 ix22 ix23 ix24 ix25 (iv_w ib4021 (by decide) (by decide)) ix27 ix31 ix32 ix33 ix34 ix35 ix36 ix41 ix42 ix46 ix47 ix49 ix53 if0 oh4149) (cwV 0 hG (gV wd_1720 wd_1722 wp_99 wd_17 wd_1723) rfl rfl rfl (by decide +kernel) ⟨Nat.le_of_ble_eq_true rfl, Nat.le_of_ble_eq_true rfl⟩) ⟨fun a U g mk q => by obtain ⟨q0, q1, qP, qK, qD⟩ := q; exact ⟨q0, q1, qP, va_K.moved (u := U) (U := U.calling g mk a) (Vm.Alike.refl U.vm) qK, qD⟩, va_recv hKc hPc (ci := 12) (q0 := 0) rfl rfl, fun U hU hW => ⟨rfl, by rw [hU], by rw [hU]; exact hPc, va_K.moved hW.alike hKc, hDc.weaken (fun _ _ _ _ => trivial)⟩⟩ rfl rfl hl.1 rfl (lv_room (Nat.le_of_ble_eq_true rfl)) dX12_readName_74 ⟨by decide, by decide⟩) hS (fun q _ h => hFc q h) hFc (fun r4150 u4151 t H1 locs ht hvm hw hB hz1 hk1 hS => ?_)
            have hw : iv r4150 (-1) 255 ∧ (256 * (b4021.toInt + 1 - x27.toInt) ≤ 255 - r4150.toInt) ∧ (r4150.toInt = (pkf b4021 x27 f0).toInt) ∧ True := hw
            obtain ⟨ir4150, op4152, op4153, -⟩ := hw
            obtain ⟨hP1, hK1, hD1⟩ := hB
            rw [ht] at hP1
            have hK1 := va_K.moved hvm.symm hK1
            obtain ⟨hP, hD⟩ := nv_join (wf := [(h0, .inr (12, .int x0 :: .ref h1 :: .ref h2 :: .int x1 :: .int x2 :: .int x3 :: .int x4 :: .int x5 :: .int x6 :: .int x7 :: .int x8 :: .int x9 :: [.int x10, .int x11, .int x12, .int x13, .int x14, .int x15, .ref h3, .ref h4, .ref h5, .ref h6, .int x16, .int x17, .int x18, .int x19, .int x20, .int x21, .int x22, .int x23, .ref h7, .int x24, .int x25, .int b4021, .int x27, .ref h8, .ref h9, .int x28, .int x29, .long b4022, .int u3_0, .int x31, .ref h10, .ref h11, .ref h12, .ref h13, .ref h14, .int x32, .int x33, .int x34, .int x35, .int x36, .int x37, .int x38, .int x39, .int x40, .ref h15, .ref h16, .int x41, .int x42, .int x43, .int x44, .int x45, .int x46, .int x47, .int x48, .ref h17, .int x49, .int x50, .int x51, .int x52, .int x53])), (h7, .inl (y0, 2600, .inl f0))]) hP hD [0, 1] [] rfl rfl (by decide) (by decide) hk1 hFc hP1 hD1 rfl
            have hK := (hK.sub (tys' := []) [] rfl).app hK1
            generalize H1 = H at hP hS ⊢
            have hK : va_K (dC, dI) vwCl [(y0, .byte)] s := hK
            clear hKc hPc hDc hFc hP1 hD1 hK1 hk1 hz1
            refine lv_i2l (v := _) hx hb dX12_readName_77 rfl ?_
            refine lv_topl (fun w4154 ew4154 => ?_)
            refine lv_lor hx hb dX12_readName_78 ?_
            refine lv_topl (fun w4155 ew4155 => ?_)
            refine va_put (D := (dC, dI)) (ci := 12) (v := .long w4155) (ty := .long) (C := RX12) (T := TX12) (N := 72) hx hb hG inGX12 tyX12 tyX12_ok nmX12 hown hK hP hD hS 0 rfl rfl 39 (by decide) (hG _ wd_1346) (fun _ h9 => h9) rfl (by decide +kernel) rfl rfl (Nat.le_of_ble_eq_true rfl) dX12_readName_79 (fun H locs hP hD hS => ?_)
            obtain ⟨hP, hD⟩ := nv_eq (ws' := [(h0, .inr (12, .int x0 :: .ref h1 :: .ref h2 :: .int x1 :: .int x2 :: .int x3 :: .int x4 :: .int x5 :: .int x6 :: .int x7 :: .int x8 :: .int x9 :: [.int x10, .int x11, .int x12, .int x13, .int x14, .int x15, .ref h3, .ref h4, .ref h5, .ref h6, .int x16, .int x17, .int x18, .int x19, .int x20, .int x21, .int x22, .int x23, .ref h7, .int x24, .int x25, .int b4021, .int x27, .ref h8, .ref h9, .int x28, .int x29, .long w4155, .int u3_0, .int x31, .ref h10, .ref h11, .ref h12, .ref h13, .ref h14, .int x32, .int x33, .int x34, .int x35, .int x36, .int x37, .int x38, .int x39, .int x40, .ref h15, .ref h16, .int x41, .int x42, .int x43, .int x44, .int x45, .int x46, .int x47, .int x48, .ref h17, .int x49, .int x50, .int x51, .int x52, .int x53])), (h7, .inl (y0, 2600, .inl f0))]) hP hD rfl
            exact j4139 w4155 _ _ hK hP hD hS ls hl
        · skip
          have j4156 : iv r4103 0 0 := iv_eqc c4108 (by decide)
          refine lv_aload_n hx hb dX12_readName_49 rfl (lv_at hl 1 rfl) ?_
          obtain ⟨hPc, hDc, hFc⟩ := nv_sub3 (wc := [(h0, .inr (12, .int x0 :: .ref h1 :: .ref h2 :: .int x1 :: .int x2 :: .int x3 :: .int x4 :: .int x5 :: .int x6 :: .int x7 :: .int x8 :: .int x9 :: [.int x10, .int x11, .int x12, .int x13, .int x14, .int x15, .ref h3, .ref h4, .ref h5, .ref h6, .int x16, .int x17, .int x18, .int x19, .int x20, .int x21, .int x22, .int x23, .ref h7, .int x24, .int x25, .int b4021, .int x27, .ref h8, .ref h9, .int x28, .int x29, .long b4022, .int u3_0, .int x31, .ref h10, .ref h11, .ref h12, .ref h13, .ref h14, .int x32, .int x33, .int x34, .int x35, .int x36, .int x37, .int x38, .int x39, .int x40, .ref h15, .ref h16, .int x41, .int x42, .int x43, .int x44, .int x45, .int x46, .int x47, .int x48, .ref h17, .int x49, .int x50, .int x51, .int x52, .int x53])), (h7, .inl (y0, 2600, .inl f0))]) hP hD hS hA [0, 1] (by decide) rfl
          have hKc := hK.sub (tys' := [(y0, .byte)]) [0] rfl
          have oh4157 : b4021.toInt ≤ x27.toInt := by omega
          refine va_calli (va_runV (As := []) (rest := []) ⟨hx, hb, hml, hown, hG⟩ (cX12_peek__1 l dC dI h0 h1 h2 h3 h4 h5 h6 h7 h8 h9 h10 h11 h12 h13 h14 h15 h16 h17 y0 H.size x0 x1 x2 x3 x4 x5 x6 x7 x8 x9 x10 x11 x12 x13 x14 x15 x16 x17 x18 x19 x20 x21 x22 x23 x24 x25 b4021 x27 x28 x29 u3_0 x31 x32 x33 x34 x35 x36 x37 x38 x39 x40 x41 x42 x43 x44 x45 x46 x47 x48 x49 x50 x51 x52 x53 b4022 f0 ix15 ix16 ix21 ix22 ix23 ix24 ix25 (iv_w ib4021 (by decide) (by decide)) ix27 ix31 ix32 ix33 ix34 ix35 ix36 ix41 ix42 ix46 ix47 ix49 ix53 if0 oh4157) (cwV 0 hG (gV wd_1720 wd_1722 wp_99 wd_17 wd_1723) rfl rfl rfl (by decide +kernel) ⟨Nat.le_of_ble_eq_true rfl, Nat.le_of_ble_eq_true rfl⟩) ⟨fun a U g mk q => by obtain ⟨q0, q1, qP, qK, qD⟩ := q; exact ⟨q0, q1, qP, va_K.moved (u := U) (U := U.calling g mk a) (Vm.Alike.refl U.vm) qK, qD⟩, va_recv hKc hPc (ci := 12) (q0 := 0) rfl rfl, fun U hU hW => ⟨rfl, by rw [hU], by rw [hU]; exact hPc, va_K.moved hW.alike hKc, hDc.weaken (fun _ _ _ _ => trivial)⟩⟩ rfl rfl hl.1 rfl (lv_room (Nat.le_of_ble_eq_true rfl)) dX12_readName_50 ⟨by decide, by decide⟩) hS (fun q _ h => hFc q h) hFc (fun r4158 u4159 t H1 locs ht hvm hw hB hz1 hk1 hS => ?_)
          have hw : iv r4158 (-1) 255 ∧ (256 * (b4021.toInt + 1 - x27.toInt) ≤ 255 - r4158.toInt) ∧ (r4158.toInt = (pkf b4021 x27 f0).toInt) ∧ True := hw
          obtain ⟨ir4158, op4160, op4161, -⟩ := hw
          obtain ⟨hP1, hK1, hD1⟩ := hB
          rw [ht] at hP1
          have hK1 := va_K.moved hvm.symm hK1
          obtain ⟨hP, hD⟩ := nv_join (wf := [(h0, .inr (12, .int x0 :: .ref h1 :: .ref h2 :: .int x1 :: .int x2 :: .int x3 :: .int x4 :: .int x5 :: .int x6 :: .int x7 :: .int x8 :: .int x9 :: [.int x10, .int x11, .int x12, .int x13, .int x14, .int x15, .ref h3, .ref h4, .ref h5, .ref h6, .int x16, .int x17, .int x18, .int x19, .int x20, .int x21, .int x22, .int x23, .ref h7, .int x24, .int x25, .int b4021, .int x27, .ref h8, .ref h9, .int x28, .int x29, .long b4022, .int u3_0, .int x31, .ref h10, .ref h11, .ref h12, .ref h13, .ref h14, .int x32, .int x33, .int x34, .int x35, .int x36, .int x37, .int x38, .int x39, .int x40, .ref h15, .ref h16, .int x41, .int x42, .int x43, .int x44, .int x45, .int x46, .int x47, .int x48, .ref h17, .int x49, .int x50, .int x51, .int x52, .int x53])), (h7, .inl (y0, 2600, .inl f0))]) hP hD [0, 1] [] rfl rfl (by decide) (by decide) hk1 hFc hP1 hD1 rfl
          have hK := (hK.sub (tys' := []) [] rfl).app hK1
          generalize H1 = H at hP hS ⊢
          have hK : va_K (dC, dI) vwCl [(y0, .byte)] s := hK
          clear hKc hPc hDc hFc hP1 hD1 hK1 hk1 hz1
          obtain ⟨hPc, hDc, hFc⟩ := nv_sub3 (wc := []) hP hD hS hA [] (by decide) rfl
          have hKc := hK.sub (tys' := []) [] rfl
          refine va_calli (va_runS (As := [.int r4158]) (rest := []) ⟨hx, hb, hml, hown, hG⟩ (cX12_isDigit_1 l dC dI H.size r4158) (va_cwS 1 hG (gS wd_1735 wd_1736 wd_17 wd_1737) rfl rfl rfl (by decide +kernel) ⟨Nat.le_of_ble_eq_true rfl, Nat.le_of_ble_eq_true rfl⟩) ⟨fun a U g mk q => by obtain ⟨q0, q1, qP, qK, qD⟩ := q; exact ⟨q0, q1, qP, va_K.moved (u := U) (U := U.calling g mk a) (Vm.Alike.refl U.vm) qK, qD⟩, fun U hU hW => ⟨rfl, by rw [hU], by rw [hU]; exact hPc, va_K.moved hW.alike hKc, hDc.weaken (fun _ _ _ _ => trivial)⟩⟩ rfl rfl hl.1 rfl (lv_room (Nat.le_of_ble_eq_true rfl)) dX12_readName_53 ⟨by decide, by decide⟩) hS (fun q _ h => hFc q h) hFc (fun r4162 u4163 t H1 locs ht hvm hw hB hz1 hk1 hS => ?_)
          have hw : iv r4162 0 1 ∧ (48 * r4162.toInt ≤ r4158.toInt + 2147483648 * (1 - r4162.toInt)) ∧ (r4158.toInt ≤ 57 * r4162.toInt + 2147483647 * (1 - r4162.toInt)) ∧ (r4162.toInt = 1 ∨ r4158.toInt < 48 ∨ 57 < r4158.toInt) ∧ True := hw
          obtain ⟨ir4162, op4164, op4165, op4166, -⟩ := hw
          obtain ⟨hP1, hK1, hD1⟩ := hB
          rw [ht] at hP1
          have hK1 := va_K.moved hvm.symm hK1
          obtain ⟨hP, hD⟩ := nv_join (wf := [(h0, .inr (12, .int x0 :: .ref h1 :: .ref h2 :: .int x1 :: .int x2 :: .int x3 :: .int x4 :: .int x5 :: .int x6 :: .int x7 :: .int x8 :: .int x9 :: [.int x10, .int x11, .int x12, .int x13, .int x14, .int x15, .ref h3, .ref h4, .ref h5, .ref h6, .int x16, .int x17, .int x18, .int x19, .int x20, .int x21, .int x22, .int x23, .ref h7, .int x24, .int x25, .int b4021, .int x27, .ref h8, .ref h9, .int x28, .int x29, .long b4022, .int u3_0, .int x31, .ref h10, .ref h11, .ref h12, .ref h13, .ref h14, .int x32, .int x33, .int x34, .int x35, .int x36, .int x37, .int x38, .int x39, .int x40, .ref h15, .ref h16, .int x41, .int x42, .int x43, .int x44, .int x45, .int x46, .int x47, .int x48, .ref h17, .int x49, .int x50, .int x51, .int x52, .int x53])), (h7, .inl (y0, 2600, .inl f0))]) hP hD [] [0, 1] rfl rfl (by decide) (by decide) hk1 hFc hP1 hD1 rfl
          have hK := (hK.sub (tys' := [(y0, .byte)]) [0] rfl).app hK1
          generalize H1 = H at hP hS ⊢
          have hK : va_K (dC, dI) vwCl [(y0, .byte)] s := hK
          clear hKc hPc hDc hFc hP1 hD1 hK1 hk1 hz1
          refine lv_if_eq (tgt := 98) hx hb dX12_readName_56 (by decide) (fun c4167 => ?_) (fun c4167 => ?_)
          · skip
            have j4185 : iv r4162 0 0 := iv_eqc c4167 (by decide)
            refine lv_iload_n hx hb dX12_readName_98 rfl (lv_at hl 0 rfl) ?_
            refine lv_bipush (v := 8) hx hb dX12_readName_99 (by decide) ?_
            refine jcut (a := ∀ (b4191 : Int32) (b4192 : Int32) (b4193 : Int32) (ib4191 : iv b4191 0 1) (o4194 : x26.toInt + b4191.toInt ≤ b4021.toInt) (H : Heap) (locs : List Loc) (hK : va_K (dC, dI) vwCl [(y0, .byte)] s) (hP : va_P (dC, dI) vwCl [(h0, .inr (12, .int x0 :: .ref h1 :: .ref h2 :: .int x1 :: .int x2 :: .int x3 :: .int x4 :: .int x5 :: .int x6 :: .int x7 :: .int x8 :: .int x9 :: [.int x10, .int x11, .int x12, .int x13, .int x14, .int x15, .ref h3, .ref h4, .ref h5, .ref h6, .int x16, .int x17, .int x18, .int x19, .int x20, .int x21, .int x22, .int x23, .ref h7, .int x24, .int x25, .int b4021, .int x27, .ref h8, .ref h9, .int b4192, .int b4193, .long b4022, .int u3_0, .int x31, .ref h10, .ref h11, .ref h12, .ref h13, .ref h14, .int x32, .int x33, .int x34, .int x35, .int x36, .int x37, .int x38, .int x39, .int x40, .ref h15, .ref h16, .int x41, .int x42, .int x43, .int x44, .int x45, .int x46, .int x47, .int x48, .ref h17, .int x49, .int x50, .int x51, .int x52, .int x53])), (h7, .inl (y0, 2600, .inl f0))] H) (hD : va_D A [(h0, .inr (12, .int x0 :: .ref h1 :: .ref h2 :: .int x1 :: .int x2 :: .int x3 :: .int x4 :: .int x5 :: .int x6 :: .int x7 :: .int x8 :: .int x9 :: [.int x10, .int x11, .int x12, .int x13, .int x14, .int x15, .ref h3, .ref h4, .ref h5, .ref h6, .int x16, .int x17, .int x18, .int x19, .int x20, .int x21, .int x22, .int x23, .ref h7, .int x24, .int x25, .int b4021, .int x27, .ref h8, .ref h9, .int b4192, .int b4193, .long b4022, .int u3_0, .int x31, .ref h10, .ref h11, .ref h12, .ref h13, .ref h14, .int x32, .int x33, .int x34, .int x35, .int x36, .int x37, .int x38, .int x39, .int x40, .ref h15, .ref h16, .int x41, .int x42, .int x43, .int x44, .int x45, .int x46, .int x47, .int x48, .ref h17, .int x49, .int x50, .int x51, .int x52, .int x53])), (h7, .inl (y0, 2600, .inl f0))]) (hS : va_S A s.heap H locs) (ls : Array Slot) (hl : lv_has ls 2 []), W p l e (headSpec (Cond.code yX12_readName cX12_readName 2 (some .boolean) :: lw_G) ({ frames := 2, cells := 0, slots := 0, locals := 40 })).room s m ar below meth c H locs 0 0 Q (F0 m 121 ls [.int b4191])) ?_ (fun j4195 => ?_)
            · skip
              intro b4191 b4192 b4193 ib4191 o4194 H locs hK hP hD hS ls hl
              rw [hQ]
              obtain ⟨hP9, hD9⟩ := nv_sub2 (wc := [(h0, .inr (12, .int x0 :: .ref h1 :: .ref h2 :: .int x1 :: .int x2 :: .int x3 :: .int x4 :: .int x5 :: .int x6 :: .int x7 :: .int x8 :: .int x9 :: [.int x10, .int x11, .int x12, .int x13, .int x14, .int x15, .ref h3, .ref h4, .ref h5, .ref h6, .int x16, .int x17, .int x18, .int x19, .int x20, .int x21, .int x22, .int x23, .ref h7, .int x24, .int x25, .int b4021, .int x27, .ref h8, .ref h9, .int b4192, .int b4193, .long b4022, .int u3_0, .int x31, .ref h10, .ref h11, .ref h12, .ref h13, .ref h14, .int x32, .int x33, .int x34, .int x35, .int x36, .int x37, .int x38, .int x39, .int x40, .ref h15, .ref h16, .int x41, .int x42, .int x43, .int x44, .int x45, .int x46, .int x47, .int x48, .ref h17, .int x49, .int x50, .int x51, .int x52, .int x53])), (h7, .inl (y0, 2600, .inl f0))]) hP hD [0, 1] (by decide) rfl
              have hK9 := hK.sub (tys' := [(y0, .byte)]) [0] rfl
              have oh4196 : x26.toInt ≤ b4021.toInt := by omega
              have oh4197 : b4021.toInt ≤ x27.toInt := by omega
              have oh4198 : x26.toInt + b4191.toInt ≤ b4021.toInt := by omega
              exact W.zret (v := b4191) hx hb hr (iv_z (iv_w ib4191 (by decide) (by decide))).1 (fun t ht hW => ⟨⟨b4191, (b4021, b4192, b4193, b4022, u3_0), rfl, ⟨iv_w ib4191 (by decide) (by decide), iv_w ib4021 (by decide) (by decide), iv_w iu3_0 (by decide) (by decide), oh4196, oh4197, oh4198, trivial⟩, by rw [ht]; exact hP9, va_K.moved hW.alike hK9, hD9⟩, hS.F ht⟩) hS.2.2 dX12_readName_121
            refine lv_icmp_le (tgt := 116) hx hb dX12_readName_101 (by decide) (fun c4186 => ?_) (fun c4186 => ?_)
            · skip
              have j4199 : iv b4020 (-2147483648) 8 := iv_leL (iv_any b4020) (by decide : iv 8 8 8) c4186 (by decide)
              refine lv_iconst (v := 1) hx hb dX12_readName_116 (by decide) ?_
              refine lv_goto (tgt := 121) hx hb dX12_readName_117 (by decide) ?_
              have kc1 : (1 : Int32).toInt = 1 := by decide
              have oh4200 : x26.toInt + (1 : Int32).toInt ≤ b4021.toInt := by omega
              exact j4195 1 x28 x29 (iv_w (by decide : iv 1 1 1) (by decide) (by decide)) oh4200 _ _ hK hP hD hS ls (lv_sub hl [] rfl)
            · skip
              have j4201 : iv b4020 9 2147483647 := iv_nleL (iv_any b4020) (by decide : iv 8 8 8) c4186 (by decide)
              refine lv_aload_n hx hb dX12_readName_104 rfl (lv_at hl 1 rfl) ?_
              refine lv_iconst (v := 1) hx hb dX12_readName_105 (by decide) ?_
              refine lv_aload_n hx hb dX12_readName_106 rfl (lv_at hl 1 rfl) ?_
              refine va_get (D := (dC, dI)) (ci := 12) (v := .int u3_0) (C := RX12) (T := TX12) (N := 72) hx hb hG inGX12 hown hK hP 0 rfl rfl 40 (by decide) (hG _ wd_1347) (fun _ h9 => h9) rfl dX12_readName_107 ?_
              obtain ⟨hPc, hDc, hFc⟩ := nv_sub3 (wc := [(h0, .inr (12, .int x0 :: .ref h1 :: .ref h2 :: .int x1 :: .int x2 :: .int x3 :: .int x4 :: .int x5 :: .int x6 :: .int x7 :: .int x8 :: .int x9 :: [.int x10, .int x11, .int x12, .int x13, .int x14, .int x15, .ref h3, .ref h4, .ref h5, .ref h6, .int x16, .int x17, .int x18, .int x19, .int x20, .int x21, .int x22, .int x23, .ref h7, .int x24, .int x25, .int b4021, .int x27, .ref h8, .ref h9, .int x28, .int x29, .long b4022, .int u3_0, .int x31, .ref h10, .ref h11, .ref h12, .ref h13, .ref h14, .int x32, .int x33, .int x34, .int x35, .int x36, .int x37, .int x38, .int x39, .int x40, .ref h15, .ref h16, .int x41, .int x42, .int x43, .int x44, .int x45, .int x46, .int x47, .int x48, .ref h17, .int x49, .int x50, .int x51, .int x52, .int x53]))]) hP hD hS hA [0] (by decide) rfl
              have hKc := hK.sub (tys' := []) [] rfl
              refine va_calli (va_runV (As := [.int 1, .int u3_0]) (rest := []) ⟨hx, hb, hml, hown, hG⟩ (cX12_wrong_1 l dC dI h0 h1 h2 h3 h4 h5 h6 h7 h8 h9 h10 h11 h12 h13 h14 h15 h16 h17 H.size 1 u3_0 x0 x1 x2 x3 x4 x5 x6 x7 x8 x9 x10 x11 x12 x13 x14 x15 x16 x17 x18 x19 x20 x21 x22 x23 x24 x25 b4021 x27 x28 x29 u3_0 x31 x32 x33 x34 x35 x36 x37 x38 x39 x40 x41 x42 x43 x44 x45 x46 x47 x48 x49 x50 x51 x52 x53 b4022 ix15 ix16 ix21 ix22 ix23 ix24 ix25 (iv_w ib4021 (by decide) (by decide)) ix27 ix31 ix32 ix33 ix34 ix35 ix36 ix41 ix42 ix46 ix47 ix49 ix53) (cwV 2 hG (gV wd_1731 wd_1733 wp_101 wd_17 wd_1734) rfl rfl rfl (by decide +kernel) ⟨Nat.le_of_ble_eq_true rfl, Nat.le_of_ble_eq_true rfl⟩) ⟨fun a U g mk q => by obtain ⟨q0, q1, qP, qK, qD⟩ := q; exact ⟨q0, q1, qP, va_K.moved (u := U) (U := U.calling g mk a) (Vm.Alike.refl U.vm) qK, qD⟩, va_recv hKc hPc (ci := 12) (q0 := 0) rfl rfl, fun U hU hW => ⟨rfl, by rw [hU], by rw [hU]; exact hPc, va_K.moved hW.alike hKc, hDc.weaken (fun _ _ _ _ => trivial)⟩⟩ rfl rfl hl.1 rfl (lv_room (Nat.le_of_ble_eq_true rfl)) dX12_readName_110 ⟨by decide, by decide⟩) hS (fun q _ h => hFc q h) hFc (fun r4202 u4203 t H1 locs ht hvm hw hB hz1 hk1 hS => ?_)
              have hw : r4202 = 0 ∧ True := hw
              obtain ⟨er4202, -⟩ := hw
              obtain ⟨hP1, hK1, hD1⟩ := hB
              rw [ht] at hP1
              have hK1 := va_K.moved hvm.symm hK1
              obtain ⟨hP, hD⟩ := nv_join (wf := [(h7, .inl (y0, 2600, .inl f0)), (h0, .inr (12, .int x0 :: .ref h1 :: .ref h2 :: .int x1 :: .int x2 :: .int x3 :: .int x4 :: .int x5 :: .int x6 :: .int x7 :: .int x8 :: .int x9 :: [.int x10, .int x11, .int x12, .int x13, .int x14, .int x15, .ref h3, .ref h4, .ref h5, .ref h6, .int x16, .int x17, .int x18, .int x19, .int x20, .int x21, .int x22, .int x23, .ref h7, .int x24, .int x25, .int b4021, .int x27, .ref h8, .ref h9, .int 1, .int u3_0, .long b4022, .int u3_0, .int x31, .ref h10, .ref h11, .ref h12, .ref h13, .ref h14, .int x32, .int x33, .int x34, .int x35, .int x36, .int x37, .int x38, .int x39, .int x40, .ref h15, .ref h16, .int x41, .int x42, .int x43, .int x44, .int x45, .int x46, .int x47, .int x48, .ref h17, .int x49, .int x50, .int x51, .int x52, .int x53]))]) hP hD [0] [1] rfl rfl (by decide) (by decide) hk1 hFc hP1 hD1 rfl
              have hK := (hK.sub (tys' := [(y0, .byte)]) [0] rfl).app hK1
              generalize H1 = H at hP hS ⊢
              have hK : va_K (dC, dI) vwCl [(y0, .byte)] s := hK
              clear hKc hPc hDc hFc hP1 hD1 hK1 hk1 hz1
              subst er4202
              refine lv_if_eq (tgt := 120) hx hb dX12_readName_113 (by decide) (fun _ => ?_) (fun c => absurd (by decide) c)
              refine lv_iconst (v := 0) hx hb dX12_readName_120 (by decide) ?_
              have kc0 : (0 : Int32).toInt = 0 := by decide
              have oh4204 : x26.toInt + (0 : Int32).toInt ≤ b4021.toInt := by omega
              exact j4195 0 1 u3_0 (iv_w (by decide : iv 0 0 0) (by decide) (by decide)) oh4204 _ _ hK (hP.sub (ws' := _) [1, 0] rfl) (hD.sub (ws' := _) [1, 0] (by decide) rfl) hS ls (lv_sub hl [] rfl)
          · skip
            have j4205 : iv r4162 1 1 := iv_neLo ir4162 (by decide : iv 0 0 0) c4167 (by decide)
            refine lv_iload_n hx hb dX12_readName_59 rfl (lv_at hl 0 rfl) ?_
            refine lv_bipush (v := 8) hx hb dX12_readName_60 (by decide) ?_
            refine jcut (a := ∀ (b4217 : Int64) (H : Heap) (locs : List Loc) (hK : va_K (dC, dI) vwCl [(y0, .byte)] s) (hP : va_P (dC, dI) vwCl [(h0, .inr (12, .int x0 :: .ref h1 :: .ref h2 :: .int x1 :: .int x2 :: .int x3 :: .int x4 :: .int x5 :: .int x6 :: .int x7 :: .int x8 :: .int x9 :: [.int x10, .int x11, .int x12, .int x13, .int x14, .int x15, .ref h3, .ref h4, .ref h5, .ref h6, .int x16, .int x17, .int x18, .int x19, .int x20, .int x21, .int x22, .int x23, .ref h7, .int x24, .int x25, .int b4021, .int x27, .ref h8, .ref h9, .int x28, .int x29, .long b4217, .int u3_0, .int x31, .ref h10, .ref h11, .ref h12, .ref h13, .ref h14, .int x32, .int x33, .int x34, .int x35, .int x36, .int x37, .int x38, .int x39, .int x40, .ref h15, .ref h16, .int x41, .int x42, .int x43, .int x44, .int x45, .int x46, .int x47, .int x48, .ref h17, .int x49, .int x50, .int x51, .int x52, .int x53])), (h7, .inl (y0, 2600, .inl f0))] H) (hD : va_D A [(h0, .inr (12, .int x0 :: .ref h1 :: .ref h2 :: .int x1 :: .int x2 :: .int x3 :: .int x4 :: .int x5 :: .int x6 :: .int x7 :: .int x8 :: .int x9 :: [.int x10, .int x11, .int x12, .int x13, .int x14, .int x15, .ref h3, .ref h4, .ref h5, .ref h6, .int x16, .int x17, .int x18, .int x19, .int x20, .int x21, .int x22, .int x23, .ref h7, .int x24, .int x25, .int b4021, .int x27, .ref h8, .ref h9, .int x28, .int x29, .long b4217, .int u3_0, .int x31, .ref h10, .ref h11, .ref h12, .ref h13, .ref h14, .int x32, .int x33, .int x34, .int x35, .int x36, .int x37, .int x38, .int x39, .int x40, .ref h15, .ref h16, .int x41, .int x42, .int x43, .int x44, .int x45, .int x46, .int x47, .int x48, .ref h17, .int x49, .int x50, .int x51, .int x52, .int x53])), (h7, .inl (y0, 2600, .inl f0))]) (hS : va_S A s.heap H locs) (ls : Array Slot) (hl : lv_has ls 2 [(1, .int b4020), (0, .ref h0)]), W p l e (headSpec (Cond.code yX12_readName cX12_readName 2 (some .boolean) :: lw_G) ({ frames := 2, cells := 0, slots := 0, locals := 40 })).room s m ar below meth c H locs 0 0 Q (F0 m 82 ls [])) ?_ (fun j4218 => ?_)
            · skip
              intro b4217 H locs hK hP hD hS ls hl
              obtain ⟨v4219, ev4219⟩ : ∃ y : Int32, y = b4020 + Int32.ofInt 1 := ⟨_, rfl⟩
              refine lv_iinc (v := v4219) (lv' := [(1, .int v4219), (0, .ref h0)]) hx hb dX12_readName_82 hl (k := 0) rfl ev4219.symm (by decide) rfl (fun ls hl => ?_)
              refine lv_aload_n hx hb dX12_readName_85 rfl (lv_at hl 1 rfl) ?_
              refine lv_dup hx hb dX12_readName_86 rfl ?_
              refine va_get (D := (dC, dI)) (ci := 12) (v := .int b4021) (C := RX12) (T := TX12) (N := 72) hx hb hG inGX12 hown hK hP 0 rfl rfl 33 (by decide) (hG _ wd_1340) (fun _ h9 => h9) rfl dX12_readName_87 ?_
              refine lv_iconst (v := 1) hx hb dX12_readName_90 (by decide) ?_
              refine lv_iadd hx hb dX12_readName_91 ?_
              refine lv_topi (fun v4220 ev4220 => ?_)
              have iv4220 : iv v4220 2 2501 := iv_eq ev4220 (iv_add ib4021 (by decide : iv 1 1 1) (by decide) (by decide))
              have tv4220 : v4220.toInt = b4021.toInt + 1 := iv_addT ev4220 ib4021 (by decide) (by decide) (by decide)
              have j4221 : iv v4220 2 2500 := ⟨by omega, by omega⟩
              refine va_put (D := (dC, dI)) (ci := 12) (v := .int v4220) (ty := .int) (C := RX12) (T := TX12) (N := 72) hx hb hG inGX12 tyX12 tyX12_ok nmX12 hown hK hP hD hS 0 rfl rfl 33 (by decide) (hG _ wd_1340) (fun _ h9 => h9) rfl (by decide +kernel) rfl rfl (Nat.le_of_ble_eq_true rfl) dX12_readName_92 (fun H locs hP hD hS => ?_)
              obtain ⟨hP, hD⟩ := nv_eq (ws' := [(h0, .inr (12, .int x0 :: .ref h1 :: .ref h2 :: .int x1 :: .int x2 :: .int x3 :: .int x4 :: .int x5 :: .int x6 :: .int x7 :: .int x8 :: .int x9 :: [.int x10, .int x11, .int x12, .int x13, .int x14, .int x15, .ref h3, .ref h4, .ref h5, .ref h6, .int x16, .int x17, .int x18, .int x19, .int x20, .int x21, .int x22, .int x23, .ref h7, .int x24, .int x25, .int v4220, .int x27, .ref h8, .ref h9, .int x28, .int x29, .long b4217, .int u3_0, .int x31, .ref h10, .ref h11, .ref h12, .ref h13, .ref h14, .int x32, .int x33, .int x34, .int x35, .int x36, .int x37, .int x38, .int x39, .int x40, .ref h15, .ref h16, .int x41, .int x42, .int x43, .int x44, .int x45, .int x46, .int x47, .int x48, .ref h17, .int x49, .int x50, .int x51, .int x52, .int x53])), (h7, .inl (y0, 2600, .inl f0))]) hP hD rfl
              refine lv_goto (tgt := 39) hx hb dX12_readName_95 (by decide) ?_
              have oh4222 : x26.toInt ≤ v4220.toInt := by omega
              have oh4223 : v4220.toInt ≤ x27.toInt := by omega
              have oh4224 : x26.toInt + 1 ≤ v4220.toInt := by omega
              exact ih v4219 v4220 b4217 (iv_w j4221 (by decide) (by decide)) oh4222 oh4223 oh4224 (by omega) _ _ hK hP hD hS ls hl
            refine lv_icmp_ge (tgt := 82) hx hb dX12_readName_62 (by decide) (fun c4206 => ?_) (fun c4206 => ?_)
            · skip
              have j4225 : iv b4020 8 2147483647 := iv_leR (by decide : iv 8 8 8) (iv_any b4020) c4206 (by decide)
              exact j4218 b4022 _ _ hK hP hD hS ls hl
            · skip
              have j4226 : iv b4020 (-2147483648) 7 := iv_nleR (by decide : iv 8 8 8) (iv_any b4020) c4206 (by decide)
              refine lv_aload_n hx hb dX12_readName_65 rfl (lv_at hl 1 rfl) ?_
              refine lv_aload_n hx hb dX12_readName_66 rfl (lv_at hl 1 rfl) ?_
              refine va_get (D := (dC, dI)) (ci := 12) (v := .long b4022) (C := RX12) (T := TX12) (N := 72) hx hb hG inGX12 hown hK hP 0 rfl rfl 39 (by decide) (hG _ wd_1346) (fun _ h9 => h9) rfl dX12_readName_67 ?_
              refine lv_bipush (v := 8) hx hb dX12_readName_70 (by decide) ?_
              refine lv_lshl (v := _) hx hb dX12_readName_72 rfl ?_
              refine lv_topl (fun w4227 ew4227 => ?_)
              refine lv_aload_n hx hb dX12_readName_73 rfl (lv_at hl 1 rfl) ?_
              obtain ⟨hPc, hDc, hFc⟩ := nv_sub3 (wc := [(h0, .inr (12, .int x0 :: .ref h1 :: .ref h2 :: .int x1 :: .int x2 :: .int x3 :: .int x4 :: .int x5 :: .int x6 :: .int x7 :: .int x8 :: .int x9 :: [.int x10, .int x11, .int x12, .int x13, .int x14, .int x15, .ref h3, .ref h4, .ref h5, .ref h6, .int x16, .int x17, .int x18, .int x19, .int x20, .int x21, .int x22, .int x23, .ref h7, .int x24, .int x25, .int b4021, .int x27, .ref h8, .ref h9, .int x28, .int x29, .long b4022, .int u3_0, .int x31, .ref h10, .ref h11, .ref h12, .ref h13, .ref h14, .int x32, .int x33, .int x34, .int x35, .int x36, .int x37, .int x38, .int x39, .int x40, .ref h15, .ref h16, .int x41, .int x42, .int x43, .int x44, .int x45, .int x46, .int x47, .int x48, .ref h17, .int x49, .int x50, .int x51, .int x52, .int x53])), (h7, .inl (y0, 2600, .inl f0))]) hP hD hS hA [0, 1] (by decide) rfl
              have hKc := hK.sub (tys' := [(y0, .byte)]) [0] rfl
              have oh4228 : b4021.toInt ≤ x27.toInt := by omega
              refine va_calli (va_runV (As := []) (rest := [.long w4227, .ref h0]) ⟨hx, hb, hml, hown, hG⟩ (cX12_peek__1 l dC dI h0 h1 h2 h3 h4 h5 h6 h7 h8 h9 h10 h11 h12 h13 h14 h15 h16 h17 y0 H.size x0 x1 x2 x3 x4 x5 x6 x7 x8 x9 x10 x11 x12 x13 x14 x15 x16 x17 x18 x19 x20 x21 x22 x23 x24 x25 b4021 x27 x28 x29 u3_0 x31 x32 x33 x34 x35 x36 x37 x38 x39 x40 x41 x42 x43 x44 x45 x46 x47 x48 x49 x50 x51 x52 x53 b4022 f0 ix15 ix16 ix21 ix22 ix23 ix24 ix25 (iv_w ib4021 (by decide) (by decide)) ix27 ix31 ix32 ix33 ix34 ix35 ix36 ix41 ix42 ix46 ix47 ix49 ix53 if0 oh4228) (cwV 0 hG (gV wd_1720 wd_1722 wp_99 wd_17 wd_1723) rfl rfl rfl (by decide +kernel) ⟨Nat.le_of_ble_eq_true rfl, Nat.le_of_ble_eq_true rfl⟩) ⟨fun a U g mk q => by obtain ⟨q0, q1, qP, qK, qD⟩ := q; exact ⟨q0, q1, qP, va_K.moved (u := U) (U := U.calling g mk a) (Vm.Alike.refl U.vm) qK, qD⟩, va_recv hKc hPc (ci := 12) (q0 := 0) rfl rfl, fun U hU hW => ⟨rfl, by rw [hU], by rw [hU]; exact hPc, va_K.moved hW.alike hKc, hDc.weaken (fun _ _ _ _ => trivial)⟩⟩ rfl rfl hl.1 rfl (lv_room (Nat.le_of_ble_eq_true rfl)) dX12_readName_74 ⟨by decide, by decide⟩) hS (fun q _ h => hFc q h) hFc (fun r4229 u4230 t H1 locs ht hvm hw hB hz1 hk1 hS => ?_)
              have hw : iv r4229 (-1) 255 ∧ (256 * (b4021.toInt + 1 - x27.toInt) ≤ 255 - r4229.toInt) ∧ (r4229.toInt = (pkf b4021 x27 f0).toInt) ∧ True := hw
              obtain ⟨ir4229, op4231, op4232, -⟩ := hw
              obtain ⟨hP1, hK1, hD1⟩ := hB
              rw [ht] at hP1
              have hK1 := va_K.moved hvm.symm hK1
              obtain ⟨hP, hD⟩ := nv_join (wf := [(h0, .inr (12, .int x0 :: .ref h1 :: .ref h2 :: .int x1 :: .int x2 :: .int x3 :: .int x4 :: .int x5 :: .int x6 :: .int x7 :: .int x8 :: .int x9 :: [.int x10, .int x11, .int x12, .int x13, .int x14, .int x15, .ref h3, .ref h4, .ref h5, .ref h6, .int x16, .int x17, .int x18, .int x19, .int x20, .int x21, .int x22, .int x23, .ref h7, .int x24, .int x25, .int b4021, .int x27, .ref h8, .ref h9, .int x28, .int x29, .long b4022, .int u3_0, .int x31, .ref h10, .ref h11, .ref h12, .ref h13, .ref h14, .int x32, .int x33, .int x34, .int x35, .int x36, .int x37, .int x38, .int x39, .int x40, .ref h15, .ref h16, .int x41, .int x42, .int x43, .int x44, .int x45, .int x46, .int x47, .int x48, .ref h17, .int x49, .int x50, .int x51, .int x52, .int x53])), (h7, .inl (y0, 2600, .inl f0))]) hP hD [0, 1] [] rfl rfl (by decide) (by decide) hk1 hFc hP1 hD1 rfl
              have hK := (hK.sub (tys' := []) [] rfl).app hK1
              generalize H1 = H at hP hS ⊢
              have hK : va_K (dC, dI) vwCl [(y0, .byte)] s := hK
              clear hKc hPc hDc hFc hP1 hD1 hK1 hk1 hz1
              refine lv_i2l (v := _) hx hb dX12_readName_77 rfl ?_
              refine lv_topl (fun w4233 ew4233 => ?_)
              refine lv_lor hx hb dX12_readName_78 ?_
              refine lv_topl (fun w4234 ew4234 => ?_)
              refine va_put (D := (dC, dI)) (ci := 12) (v := .long w4234) (ty := .long) (C := RX12) (T := TX12) (N := 72) hx hb hG inGX12 tyX12 tyX12_ok nmX12 hown hK hP hD hS 0 rfl rfl 39 (by decide) (hG _ wd_1346) (fun _ h9 => h9) rfl (by decide +kernel) rfl rfl (Nat.le_of_ble_eq_true rfl) dX12_readName_79 (fun H locs hP hD hS => ?_)
              obtain ⟨hP, hD⟩ := nv_eq (ws' := [(h0, .inr (12, .int x0 :: .ref h1 :: .ref h2 :: .int x1 :: .int x2 :: .int x3 :: .int x4 :: .int x5 :: .int x6 :: .int x7 :: .int x8 :: .int x9 :: [.int x10, .int x11, .int x12, .int x13, .int x14, .int x15, .ref h3, .ref h4, .ref h5, .ref h6, .int x16, .int x17, .int x18, .int x19, .int x20, .int x21, .int x22, .int x23, .ref h7, .int x24, .int x25, .int b4021, .int x27, .ref h8, .ref h9, .int x28, .int x29, .long w4234, .int u3_0, .int x31, .ref h10, .ref h11, .ref h12, .ref h13, .ref h14, .int x32, .int x33, .int x34, .int x35, .int x36, .int x37, .int x38, .int x39, .int x40, .ref h15, .ref h16, .int x41, .int x42, .int x43, .int x44, .int x45, .int x46, .int x47, .int x48, .ref h17, .int x49, .int x50, .int x51, .int x52, .int x53])), (h7, .inl (y0, 2600, .inl f0))]) hP hD rfl
              exact j4218 w4234 _ _ hK hP hD hS ls hl
    have oh4235 : x26.toInt ≤ v36.toInt := by omega
    have oh4236 : v36.toInt ≤ x27.toInt := by omega
    have oh4237 : x26.toInt + 1 ≤ v36.toInt := by omega
    exact lp4097 _ 1 v36 w35 j37 oh4235 oh4236 oh4237 (Nat.lt_succ_self _) _ _ hK hP hD hS ls hl
  · skip
    have j4238 : iv r11 0 0 := iv_eqc c16 (by decide)
    refine lv_aload_n hx hb dX12_readName_22 rfl (lv_at hl 0 rfl) ?_
    refine lv_iconst (v := 1) hx hb dX12_readName_23 (by decide) ?_
    refine lv_aload_n hx hb dX12_readName_24 rfl (lv_at hl 0 rfl) ?_
    refine va_get (D := (dC, dI)) (ci := 12) (v := .int u3_0) (C := RX12) (T := TX12) (N := 72) hx hb hG inGX12 hown hK hP 0 rfl rfl 33 (by decide) (hG _ wd_1340) (fun _ h9 => h9) rfl dX12_readName_25 ?_
    obtain ⟨hPc, hDc, hFc⟩ := nv_sub3 (wc := [(h0, .inr (12, .int x0 :: .ref h1 :: .ref h2 :: .int x1 :: .int x2 :: .int x3 :: .int x4 :: .int x5 :: .int x6 :: .int x7 :: .int x8 :: .int x9 :: [.int x10, .int x11, .int x12, .int x13, .int x14, .int x15, .ref h3, .ref h4, .ref h5, .ref h6, .int x16, .int x17, .int x18, .int x19, .int x20, .int x21, .int x22, .int x23, .ref h7, .int x24, .int x25, .int u3_0, .int x27, .ref h8, .ref h9, .int x28, .int x29, .long z0, .int u3_0, .int x31, .ref h10, .ref h11, .ref h12, .ref h13, .ref h14, .int x32, .int x33, .int x34, .int x35, .int x36, .int x37, .int x38, .int x39, .int x40, .ref h15, .ref h16, .int x41, .int x42, .int x43, .int x44, .int x45, .int x46, .int x47, .int x48, .ref h17, .int x49, .int x50, .int x51, .int x52, .int x53]))]) hP hD hS hA [0] (by decide) rfl
    have hKc := hK.sub (tys' := []) [] rfl
    refine va_calli (va_runV (As := [.int 1, .int u3_0]) (rest := []) ⟨hx, hb, hml, hown, hG⟩ (cX12_wrong_1 l dC dI h0 h1 h2 h3 h4 h5 h6 h7 h8 h9 h10 h11 h12 h13 h14 h15 h16 h17 H.size 1 u3_0 x0 x1 x2 x3 x4 x5 x6 x7 x8 x9 x10 x11 x12 x13 x14 x15 x16 x17 x18 x19 x20 x21 x22 x23 x24 x25 u3_0 x27 x28 x29 u3_0 x31 x32 x33 x34 x35 x36 x37 x38 x39 x40 x41 x42 x43 x44 x45 x46 x47 x48 x49 x50 x51 x52 x53 z0 ix15 ix16 ix21 ix22 ix23 ix24 ix25 iu3_0 ix27 ix31 ix32 ix33 ix34 ix35 ix36 ix41 ix42 ix46 ix47 ix49 ix53) (cwV 2 hG (gV wd_1731 wd_1733 wp_101 wd_17 wd_1734) rfl rfl rfl (by decide +kernel) ⟨Nat.le_of_ble_eq_true rfl, Nat.le_of_ble_eq_true rfl⟩) ⟨fun a U g mk q => by obtain ⟨q0, q1, qP, qK, qD⟩ := q; exact ⟨q0, q1, qP, va_K.moved (u := U) (U := U.calling g mk a) (Vm.Alike.refl U.vm) qK, qD⟩, va_recv hKc hPc (ci := 12) (q0 := 0) rfl rfl, fun U hU hW => ⟨rfl, by rw [hU], by rw [hU]; exact hPc, va_K.moved hW.alike hKc, hDc.weaken (fun _ _ _ _ => trivial)⟩⟩ rfl rfl hl.1 rfl (lv_room (Nat.le_of_ble_eq_true rfl)) dX12_readName_28 ⟨by decide, by decide⟩) hS (fun q _ h => hFc q h) hFc (fun r4239 u4240 t H1 locs ht hvm hw hB hz1 hk1 hS => ?_)
    have hw : r4239 = 0 ∧ True := hw
    obtain ⟨er4239, -⟩ := hw
    obtain ⟨hP1, hK1, hD1⟩ := hB
    rw [ht] at hP1
    have hK1 := va_K.moved hvm.symm hK1
    obtain ⟨hP, hD⟩ := nv_join (wf := [(h7, .inl (y0, 2600, .inl f0)), (h0, .inr (12, .int x0 :: .ref h1 :: .ref h2 :: .int x1 :: .int x2 :: .int x3 :: .int x4 :: .int x5 :: .int x6 :: .int x7 :: .int x8 :: .int x9 :: [.int x10, .int x11, .int x12, .int x13, .int x14, .int x15, .ref h3, .ref h4, .ref h5, .ref h6, .int x16, .int x17, .int x18, .int x19, .int x20, .int x21, .int x22, .int x23, .ref h7, .int x24, .int x25, .int u3_0, .int x27, .ref h8, .ref h9, .int 1, .int u3_0, .long z0, .int u3_0, .int x31, .ref h10, .ref h11, .ref h12, .ref h13, .ref h14, .int x32, .int x33, .int x34, .int x35, .int x36, .int x37, .int x38, .int x39, .int x40, .ref h15, .ref h16, .int x41, .int x42, .int x43, .int x44, .int x45, .int x46, .int x47, .int x48, .ref h17, .int x49, .int x50, .int x51, .int x52, .int x53]))]) hP hD [0] [1] rfl rfl (by decide) (by decide) hk1 hFc hP1 hD1 rfl
    have hK := (hK.sub (tys' := [(y0, .byte)]) [0] rfl).app hK1
    generalize H1 = H at hP hS ⊢
    have hK : va_K (dC, dI) vwCl [(y0, .byte)] s := hK
    clear hKc hPc hDc hFc hP1 hD1 hK1 hk1 hz1
    subst er4239
    rw [hQ]
    obtain ⟨hP9, hD9⟩ := nv_sub2 (wc := [(h0, .inr (12, .int x0 :: .ref h1 :: .ref h2 :: .int x1 :: .int x2 :: .int x3 :: .int x4 :: .int x5 :: .int x6 :: .int x7 :: .int x8 :: .int x9 :: [.int x10, .int x11, .int x12, .int x13, .int x14, .int x15, .ref h3, .ref h4, .ref h5, .ref h6, .int x16, .int x17, .int x18, .int x19, .int x20, .int x21, .int x22, .int x23, .ref h7, .int x24, .int x25, .int u3_0, .int x27, .ref h8, .ref h9, .int 1, .int u3_0, .long z0, .int u3_0, .int x31, .ref h10, .ref h11, .ref h12, .ref h13, .ref h14, .int x32, .int x33, .int x34, .int x35, .int x36, .int x37, .int x38, .int x39, .int x40, .ref h15, .ref h16, .int x41, .int x42, .int x43, .int x44, .int x45, .int x46, .int x47, .int x48, .ref h17, .int x49, .int x50, .int x51, .int x52, .int x53])), (h7, .inl (y0, 2600, .inl f0))]) hP hD [1, 0] (by decide) rfl
    have hK9 := hK.sub (tys' := [(y0, .byte)]) [0] rfl
    have oh4241 : x26.toInt ≤ u3_0.toInt := by omega
    have oh4242 : u3_0.toInt ≤ x27.toInt := by omega
    have kc0 : (0 : Int32).toInt = 0 := by decide
    have oh4243 : x26.toInt + (0 : Int32).toInt ≤ u3_0.toInt := by omega
    exact W.zret (v := 0) hx hb hr rfl (fun t ht hW => ⟨⟨0, (u3_0, 1, u3_0, z0, u3_0), rfl, ⟨iv_w (by decide : iv 0 0 0) (by decide) (by decide), iv_w iu3_0 (by decide) (by decide), iv_w iu3_0 (by decide) (by decide), oh4241, oh4242, oh4243, trivial⟩, by rw [ht]; exact hP9, va_K.moved hW.alike hK9, hD9⟩, hS.F ht⟩) hS.2.2 dX12_readName_31
set_option maxHeartbeats 100000000 in
set_option maxRecDepth 100000 in
theorem cX12_statementOf_1 (l : Launch) (dC : Nat → ClassId) (dI : Nat → Nat → Nat) (h0 h1 h2 h3 h4 h5 h6 h7 h8 h9 h10 h11 h12 h13 h14 h15 h16 h17 : Nat) (y0 y1 : ClassId) (sz : Nat) (x0 x1 x2 x3 x4 x5 x6 x7 x8 x9 x10 x11 x12 x13 x14 x15 x16 x17 x18 x19 x20 x21 x22 x23 x24 x25 x26 x27 x28 x29 x30 x31 x32 x33 x34 x35 x36 x37 x38 x39 x40 x41 x42 x43 x44 x45 x46 x47 x48 x49 x50 x51 x52 x53 : Int32) (z0 : Int64) (f0 : Nat → Int32) (g0 : Nat → Int64) (ix15 : iv x15 0 1) (ix16 : iv x16 0 40) (ix21 : iv x21 0 65535) (ix22 : iv x22 0 1) (ix23 : iv x23 0 1) (ix24 : iv x24 0 2600) (ix25 : iv x25 0 2600) (ix26 : iv x26 0 2500) (ix27 : iv x27 0 2500) (ix31 : iv x31 0 1048575) (ix32 : iv x32 0 60) (ix33 : iv x33 0 60) (ix34 : iv x34 0 1) (ix35 : iv x35 0 1) (ix36 : iv x36 0 65535) (ix41 : iv x41 0 5200) (ix42 : iv x42 0 70800) (ix46 : iv x46 0 1) (ix47 : iv x47 0 1) (ix49 : iv x49 0 100) (ix53 : iv x53 0 1) (if0 : ∀ j, iv (f0 j) 0 48) (kf0_0 : f0 0 = 0) (kf0_1 : f0 1 = 1) (kf0_2 : f0 2 = 2) (kf0_3 : f0 3 = 3) (kf0_4 : f0 4 = 4) (kf0_5 : f0 5 = 5) (kf0_6 : f0 6 = 6) (kf0_7 : f0 7 = 7) (kf0_8 : f0 8 = 8) (kf0_9 : f0 9 = 9) (kf0_10 : f0 10 = 10) (kf0_11 : f0 11 = 11) (kf0_12 : f0 12 = 20) (kf0_13 : f0 13 = 21) (kf0_14 : f0 14 = 22) (kf0_15 : f0 15 = 23) (kf0_16 : f0 16 = 24) (kf0_17 : f0 17 = 25) (kf0_18 : f0 18 = 30) (kf0_19 : f0 19 = 31) (kf0_20 : f0 20 = 32) (kf0_21 : f0 21 = 33) (kf0_22 : f0 22 = 34) (kf0_23 : f0 23 = 35) (kf0_24 : f0 24 = 36) (kf0_25 : f0 25 = 37) (kf0_26 : f0 26 = 40) (kf0_27 : f0 27 = 41) (kf0_28 : f0 28 = 42) (kf0_29 : f0 29 = 43) (kf0_30 : f0 30 = 44) (kf0_31 : f0 31 = 45) (kf0_32 : f0 32 = 46) (kf0_33 : f0 33 = 47) (kf0_34 : f0 34 = 48) : Met l yX12_statementOf (Cond.code yX12_statementOf cX12_statementOf 2 (some .int) :: lw_G) ({ frames := 0, cells := 0, slots := 0, locals := 0 }) (va_Pc [.ref h0] (fun U => U.heap.size = sz ∧ va_P (dC, dI) vwCl [(h0, .inr (12, .int x0 :: .ref h1 :: .ref h2 :: .int x1 :: .int x2 :: .int x3 :: .int x4 :: .int x5 :: .int x6 :: .int x7 :: .int x8 :: .int x9 :: [.int x10, .int x11, .int x12, .int x13, .int x14, .int x15, .ref h3, .ref h4, .ref h5, .ref h6, .int x16, .int x17, .int x18, .int x19, .int x20, .int x21, .int x22, .int x23, .ref h7, .int x24, .int x25, .int x26, .int x27, .ref h8, .ref h9, .int x28, .int x29, .long z0, .int x30, .int x31, .ref h10, .ref h11, .ref h12, .ref h13, .ref h14, .int x32, .int x33, .int x34, .int x35, .int x36, .int x37, .int x38, .int x39, .int x40, .ref h15, .ref h16, .int x41, .int x42, .int x43, .int x44, .int x45, .int x46, .int x47, .int x48, .ref h17, .int x49, .int x50, .int x51, .int x52, .int x53])), (h8, .inl (y0, 35, .inr (.inl g0))), (h9, .inl (y1, 35, .inl f0))] U.heap ∧ va_K (dC, dI) vwCl [(y0, .long), (y1, .int)] U ∧ va_D (fun _ => True) [(h0, .inr (12, .int x0 :: .ref h1 :: .ref h2 :: .int x1 :: .int x2 :: .int x3 :: .int x4 :: .int x5 :: .int x6 :: .int x7 :: .int x8 :: .int x9 :: [.int x10, .int x11, .int x12, .int x13, .int x14, .int x15, .ref h3, .ref h4, .ref h5, .ref h6, .int x16, .int x17, .int x18, .int x19, .int x20, .int x21, .int x22, .int x23, .ref h7, .int x24, .int x25, .int x26, .int x27, .ref h8, .ref h9, .int x28, .int x29, .long z0, .int x30, .int x31, .ref h10, .ref h11, .ref h12, .ref h13, .ref h14, .int x32, .int x33, .int x34, .int x35, .int x36, .int x37, .int x38, .int x39, .int x40, .ref h15, .ref h16, .int x41, .int x42, .int x43, .int x44, .int x45, .int x46, .int x47, .int x48, .ref h17, .int x49, .int x50, .int x51, .int x52, .int x53])), (h8, .inl (y0, 35, .inr (.inl g0))), (h9, .inl (y1, 35, .inl f0))])) (va_Qi (fun (r : Int32) (u : Unit) => iv r (-1) 48 ∧ True) (fun (u : Unit) (t : State) => va_P (dC, dI) vwCl [(h0, .inr (12, .int x0 :: .ref h1 :: .ref h2 :: .int x1 :: .int x2 :: .int x3 :: .int x4 :: .int x5 :: .int x6 :: .int x7 :: .int x8 :: .int x9 :: [.int x10, .int x11, .int x12, .int x13, .int x14, .int x15, .ref h3, .ref h4, .ref h5, .ref h6, .int x16, .int x17, .int x18, .int x19, .int x20, .int x21, .int x22, .int x23, .ref h7, .int x24, .int x25, .int x26, .int x27, .ref h8, .ref h9, .int x28, .int x29, .long z0, .int x30, .int x31, .ref h10, .ref h11, .ref h12, .ref h13, .ref h14, .int x32, .int x33, .int x34, .int x35, .int x36, .int x37, .int x38, .int x39, .int x40, .ref h15, .ref h16, .int x41, .int x42, .int x43, .int x44, .int x45, .int x46, .int x47, .int x48, .ref h17, .int x49, .int x50, .int x51, .int x52, .int x53])), (h8, .inl (y0, 35, .inr (.inl g0))), (h9, .inl (y1, 35, .inl f0))] t.heap ∧ va_K (dC, dI) vwCl [(y0, .long), (y1, .int)] t ∧ va_D (va_A [(h0, .inr (12, .int x0 :: .ref h1 :: .ref h2 :: .int x1 :: .int x2 :: .int x3 :: .int x4 :: .int x5 :: .int x6 :: .int x7 :: .int x8 :: .int x9 :: [.int x10, .int x11, .int x12, .int x13, .int x14, .int x15, .ref h3, .ref h4, .ref h5, .ref h6, .int x16, .int x17, .int x18, .int x19, .int x20, .int x21, .int x22, .int x23, .ref h7, .int x24, .int x25, .int x26, .int x27, .ref h8, .ref h9, .int x28, .int x29, .long z0, .int x30, .int x31, .ref h10, .ref h11, .ref h12, .ref h13, .ref h14, .int x32, .int x33, .int x34, .int x35, .int x36, .int x37, .int x38, .int x39, .int x40, .ref h15, .ref h16, .int x41, .int x42, .int x43, .int x44, .int x45, .int x46, .int x47, .int x48, .ref h17, .int x49, .int x50, .int x51, .int x52, .int x53])), (h8, .inl (y0, 35, .inr (.inl g0))), (h9, .inl (y1, 35, .inl f0))] sz) [(h0, .inr (12, .int x0 :: .ref h1 :: .ref h2 :: .int x1 :: .int x2 :: .int x3 :: .int x4 :: .int x5 :: .int x6 :: .int x7 :: .int x8 :: .int x9 :: [.int x10, .int x11, .int x12, .int x13, .int x14, .int x15, .ref h3, .ref h4, .ref h5, .ref h6, .int x16, .int x17, .int x18, .int x19, .int x20, .int x21, .int x22, .int x23, .ref h7, .int x24, .int x25, .int x26, .int x27, .ref h8, .ref h9, .int x28, .int x29, .long z0, .int x30, .int x31, .ref h10, .ref h11, .ref h12, .ref h13, .ref h14, .int x32, .int x33, .int x34, .int x35, .int x36, .int x37, .int x38, .int x39, .int x40, .ref h15, .ref h16, .int x41, .int x42, .int x43, .int x44, .int x45, .int x46, .int x47, .int x48, .ref h17, .int x49, .int x50, .int x51, .int x52, .int x53])), (h8, .inl (y0, 35, .inr (.inl g0))), (h9, .inl (y1, 35, .inl f0))]) (va_A [(h0, .inr (12, .int x0 :: .ref h1 :: .ref h2 :: .int x1 :: .int x2 :: .int x3 :: .int x4 :: .int x5 :: .int x6 :: .int x7 :: .int x8 :: .int x9 :: [.int x10, .int x11, .int x12, .int x13, .int x14, .int x15, .ref h3, .ref h4, .ref h5, .ref h6, .int x16, .int x17, .int x18, .int x19, .int x20, .int x21, .int x22, .int x23, .ref h7, .int x24, .int x25, .int x26, .int x27, .ref h8, .ref h9, .int x28, .int x29, .long z0, .int x30, .int x31, .ref h10, .ref h11, .ref h12, .ref h13, .ref h14, .int x32, .int x33, .int x34, .int x35, .int x36, .int x37, .int x38, .int x39, .int x40, .ref h15, .ref h16, .int x41, .int x42, .int x43, .int x44, .int x45, .int x46, .int x47, .int x48, .ref h17, .int x49, .int x50, .int x51, .int x52, .int x53])), (h8, .inl (y0, 35, .inr (.inl g0))), (h9, .inl (y1, 35, .inl f0))] sz)) 0 0 (va_A [(h0, .inr (12, .int x0 :: .ref h1 :: .ref h2 :: .int x1 :: .int x2 :: .int x3 :: .int x4 :: .int x5 :: .int x6 :: .int x7 :: .int x8 :: .int x9 :: [.int x10, .int x11, .int x12, .int x13, .int x14, .int x15, .ref h3, .ref h4, .ref h5, .ref h6, .int x16, .int x17, .int x18, .int x19, .int x20, .int x21, .int x22, .int x23, .ref h7, .int x24, .int x25, .int x26, .int x27, .ref h8, .ref h9, .int x28, .int x29, .long z0, .int x30, .int x31, .ref h10, .ref h11, .ref h12, .ref h13, .ref h14, .int x32, .int x33, .int x34, .int x35, .int x36, .int x37, .int x38, .int x39, .int x40, .ref h15, .ref h16, .int x41, .int x42, .int x43, .int x44, .int x45, .int x46, .int x47, .int x48, .ref h17, .int x49, .int x50, .int x51, .int x52, .int x53])), (h8, .inl (y0, 35, .inr (.inl g0))), (h9, .inl (y1, 35, .inl f0))] sz) := by
  refine Met.ofW (cc := cX12_statementOf) (maxL := 2) (ret := (some .int)) (by decide) rfl ?_
  intro p e s m args below meth c s₁ B hml hv
  obtain ⟨rfl, hsz, hP, hK, hD0⟩ := hv
  have hx := B.exec
  have hb := B.bytes
  have hr := B.returns
  have hts0 := atoms_spec (ws := Cond.code yX12_statementOf cX12_statementOf 2 (some .int) :: lw_G) B.pre
  have hG : ∀ w ∈ lw_G, w.before _ s = true := fun w h => hts0 w (List.mem_cons_of_mem _ h)
  have hown : s.vm.findClass RX12 = some m.cls := findClass_of_methodNamed B.named
  have hlocks := B.notSynchronized
  subst hsz
  have hD := hD0.self (sz := s.heap.size)
  generalize hAe : va_A [(h0, .inr (12, .int x0 :: .ref h1 :: .ref h2 :: .int x1 :: .int x2 :: .int x3 :: .int x4 :: .int x5 :: .int x6 :: .int x7 :: .int x8 :: .int x9 :: [.int x10, .int x11, .int x12, .int x13, .int x14, .int x15, .ref h3, .ref h4, .ref h5, .ref h6, .int x16, .int x17, .int x18, .int x19, .int x20, .int x21, .int x22, .int x23, .ref h7, .int x24, .int x25, .int x26, .int x27, .ref h8, .ref h9, .int x28, .int x29, .long z0, .int x30, .int x31, .ref h10, .ref h11, .ref h12, .ref h13, .ref h14, .int x32, .int x33, .int x34, .int x35, .int x36, .int x37, .int x38, .int x39, .int x40, .ref h15, .ref h16, .int x41, .int x42, .int x43, .int x44, .int x45, .int x46, .int x47, .int x48, .ref h17, .int x49, .int x50, .int x51, .int x52, .int x53])), (h8, .inl (y0, 35, .inr (.inl g0))), (h9, .inl (y1, 35, .inl f0))] s.heap.size = A at hD ⊢
  have hA : ∀ q : Nat, s.heap.size ≤ q → A q := fun q h => by rw [← hAe]; exact Or.inr h
  have hS : va_S A s.heap s.heap [] := va_S.rf
  have hP : va_P (dC, dI) vwCl [(h0, .inr (12, .int x0 :: .ref h1 :: .ref h2 :: .int x1 :: .int x2 :: .int x3 :: .int x4 :: .int x5 :: .int x6 :: .int x7 :: .int x8 :: .int x9 :: [.int x10, .int x11, .int x12, .int x13, .int x14, .int x15, .ref h3, .ref h4, .ref h5, .ref h6, .int x16, .int x17, .int x18, .int x19, .int x20, .int x21, .int x22, .int x23, .ref h7, .int x24, .int x25, .int x26, .int x27, .ref h8, .ref h9, .int x28, .int x29, .long z0, .int x30, .int x31, .ref h10, .ref h11, .ref h12, .ref h13, .ref h14, .int x32, .int x33, .int x34, .int x35, .int x36, .int x37, .int x38, .int x39, .int x40, .ref h15, .ref h16, .int x41, .int x42, .int x43, .int x44, .int x45, .int x46, .int x47, .int x48, .ref h17, .int x49, .int x50, .int x51, .int x52, .int x53])), (h8, .inl (y0, 35, .inr (.inl g0))), (h9, .inl (y1, 35, .inl f0))] s.heap := hP
  have hl := lv_entry ([.ref h0]) (n := 2) (Nat.le_of_ble_eq_true rfl)
  rw [lg_entry_eq]
  generalize (lg_sl ([.ref h0]) ++ List.replicate (2 - (lg_sl ([.ref h0])).length) Slot.unset).toArray = ls at hl ⊢
  have hl : lv_has ls 2 [(0, .ref h0)] := hl
  generalize ([.ref h0] : List Value).toArray = ar at hG ⊢
  refine wq (fun Q hQ => ?_)
  refine lv_iconst (v := 0) hx hb dX12_statementOf_0 (by decide) ?_
  refine lv_istore_n (lv' := [(1, .int 0), (0, .ref h0)]) hx hb dX12_statementOf_1 rfl hl (by decide) rfl (fun ls hl => ?_)
  refine jcut (a := ∀ (n : Nat) (b89 : Int32) (ib89 : iv b89 0 35) (hm : (35 - b89.toInt).toNat < n) (H : Heap) (locs : List Loc) (hK : va_K (dC, dI) vwCl [(y0, .long), (y1, .int)] s) (hP : va_P (dC, dI) vwCl [(h0, .inr (12, .int x0 :: .ref h1 :: .ref h2 :: .int x1 :: .int x2 :: .int x3 :: .int x4 :: .int x5 :: .int x6 :: .int x7 :: .int x8 :: .int x9 :: [.int x10, .int x11, .int x12, .int x13, .int x14, .int x15, .ref h3, .ref h4, .ref h5, .ref h6, .int x16, .int x17, .int x18, .int x19, .int x20, .int x21, .int x22, .int x23, .ref h7, .int x24, .int x25, .int x26, .int x27, .ref h8, .ref h9, .int x28, .int x29, .long z0, .int x30, .int x31, .ref h10, .ref h11, .ref h12, .ref h13, .ref h14, .int x32, .int x33, .int x34, .int x35, .int x36, .int x37, .int x38, .int x39, .int x40, .ref h15, .ref h16, .int x41, .int x42, .int x43, .int x44, .int x45, .int x46, .int x47, .int x48, .ref h17, .int x49, .int x50, .int x51, .int x52, .int x53])), (h8, .inl (y0, 35, .inr (.inl g0))), (h9, .inl (y1, 35, .inl f0))] H) (hD : va_D A [(h0, .inr (12, .int x0 :: .ref h1 :: .ref h2 :: .int x1 :: .int x2 :: .int x3 :: .int x4 :: .int x5 :: .int x6 :: .int x7 :: .int x8 :: .int x9 :: [.int x10, .int x11, .int x12, .int x13, .int x14, .int x15, .ref h3, .ref h4, .ref h5, .ref h6, .int x16, .int x17, .int x18, .int x19, .int x20, .int x21, .int x22, .int x23, .ref h7, .int x24, .int x25, .int x26, .int x27, .ref h8, .ref h9, .int x28, .int x29, .long z0, .int x30, .int x31, .ref h10, .ref h11, .ref h12, .ref h13, .ref h14, .int x32, .int x33, .int x34, .int x35, .int x36, .int x37, .int x38, .int x39, .int x40, .ref h15, .ref h16, .int x41, .int x42, .int x43, .int x44, .int x45, .int x46, .int x47, .int x48, .ref h17, .int x49, .int x50, .int x51, .int x52, .int x53])), (h8, .inl (y0, 35, .inr (.inl g0))), (h9, .inl (y1, 35, .inl f0))]) (hS : va_S A s.heap H locs) (ls : Array Slot) (hl : lv_has ls 2 [(1, .int b89), (0, .ref h0)]), W p l e (headSpec (Cond.code yX12_statementOf cX12_statementOf 2 (some .int) :: lw_G) ({ frames := 0, cells := 0, slots := 0, locals := 0 })).room s m ar below meth c H locs 0 0 Q (F0 m 2 ls [])) ?_ (fun lp100 => ?_)
  · skip
    intro n
    induction n with
    | zero => intro b89 ib89 hm H locs hK hP hD hS ls hl; exact absurd hm (Nat.not_lt_zero _)
    | succ n ih =>
      intro b89 ib89 hm H locs hK hP hD hS ls hl
      refine lv_iload_n hx hb dX12_statementOf_2 rfl (lv_at hl 0 rfl) ?_
      refine lv_bipush (v := 35) hx hb dX12_statementOf_3 (by decide) ?_
      refine lv_icmp_ge (tgt := 35) hx hb dX12_statementOf_5 (by decide) (fun c101 => ?_) (fun c101 => ?_)
      · skip
        have j102 : iv b89 35 35 := iv_leR (by decide : iv 35 35 35) ib89 c101 (by decide)
        refine lv_iconst (v := (-1)) hx hb dX12_statementOf_35 (by decide) ?_
        rw [hQ]
        obtain ⟨hP9, hD9⟩ := nv_sub2 (wc := [(h0, .inr (12, .int x0 :: .ref h1 :: .ref h2 :: .int x1 :: .int x2 :: .int x3 :: .int x4 :: .int x5 :: .int x6 :: .int x7 :: .int x8 :: .int x9 :: [.int x10, .int x11, .int x12, .int x13, .int x14, .int x15, .ref h3, .ref h4, .ref h5, .ref h6, .int x16, .int x17, .int x18, .int x19, .int x20, .int x21, .int x22, .int x23, .ref h7, .int x24, .int x25, .int x26, .int x27, .ref h8, .ref h9, .int x28, .int x29, .long z0, .int x30, .int x31, .ref h10, .ref h11, .ref h12, .ref h13, .ref h14, .int x32, .int x33, .int x34, .int x35, .int x36, .int x37, .int x38, .int x39, .int x40, .ref h15, .ref h16, .int x41, .int x42, .int x43, .int x44, .int x45, .int x46, .int x47, .int x48, .ref h17, .int x49, .int x50, .int x51, .int x52, .int x53])), (h8, .inl (y0, 35, .inr (.inl g0))), (h9, .inl (y1, 35, .inl f0))]) hP hD [0, 1, 2] (by decide) rfl
        have hK9 := hK.sub (tys' := [(y0, .long), (y1, .int)]) [0, 1] rfl
        exact W.iret (v := (-1)) hx hb hr (fun t ht hW => ⟨⟨(-1), (), rfl, ⟨iv_w (by decide : iv (-1) (-1) (-1)) (by decide) (by decide), trivial⟩, by rw [ht]; exact hP9, va_K.moved hW.alike hK9, hD9⟩, hS.F ht⟩) hS.2.2 dX12_statementOf_36
      · skip
        have j103 : iv b89 0 34 := iv_nleR (by decide : iv 35 35 35) ib89 c101 (by decide)
        refine lv_aload_n hx hb dX12_statementOf_8 rfl (lv_at hl 1 rfl) ?_
        refine va_get (D := (dC, dI)) (ci := 12) (v := .ref h8) (C := RX12) (T := TX12) (N := 72) hx hb hG inGX12 hown hK hP 0 rfl rfl 35 (by decide) (hG _ wd_1342) (fun _ h9 => h9) rfl dX12_statementOf_9 ?_
        refine lv_iload_n hx hb dX12_statementOf_12 rfl (lv_at hl 0 rfl) ?_
        refine va_lald hx hb hK hP 1 0 rfl rfl (iv_in j103 (by decide) (by decide) : vp_in b89 35) dX12_statementOf_13 ?_
        refine lv_topl (fun w104 ew104 => ?_)
        refine lv_aload_n hx hb dX12_statementOf_14 rfl (lv_at hl 1 rfl) ?_
        refine va_get (D := (dC, dI)) (ci := 12) (v := .long z0) (C := RX12) (T := TX12) (N := 72) hx hb hG inGX12 hown hK hP 0 rfl rfl 39 (by decide) (hG _ wd_1346) (fun _ h9 => h9) rfl dX12_statementOf_15 ?_
        refine W.lcmp hx hb dX12_statementOf_18 ?_
        refine lv_topi (fun v105 ev105 => ?_)
        refine lv_if_ne (tgt := 29) hx hb dX12_statementOf_19 (by decide) (fun c106 => ?_) (fun c106 => ?_)
        · skip
          obtain ⟨v107, ev107⟩ : ∃ y : Int32, y = b89 + Int32.ofInt 1 := ⟨_, rfl⟩
          have iv107 : iv v107 1 35 := iv_eq ev107 (iv_add j103 (by decide : iv (Int32.ofInt 1) 1 1) (by decide) (by decide))
          have tv107 : v107.toInt = b89.toInt + 1 := iv_addT ev107 j103 (by decide) (by decide) (by decide)
          refine lv_iinc (v := v107) (lv' := [(1, .int v107), (0, .ref h0)]) hx hb dX12_statementOf_29 hl (k := 0) rfl ev107.symm (by decide) rfl (fun ls hl => ?_)
          refine lv_goto (tgt := 2) hx hb dX12_statementOf_32 (by decide) ?_
          exact ih v107 (iv_w iv107 (by decide) (by decide)) (by omega) _ _ hK hP hD hS ls hl
        · skip
          have j108 : iv v105 0 0 := iv_eqc c106 (by decide)
          refine lv_aload_n hx hb dX12_statementOf_22 rfl (lv_at hl 1 rfl) ?_
          refine va_get (D := (dC, dI)) (ci := 12) (v := .ref h9) (C := RX12) (T := TX12) (N := 72) hx hb hG inGX12 hown hK hP 0 rfl rfl 36 (by decide) (hG _ wd_1343) (fun _ h9 => h9) rfl dX12_statementOf_23 ?_
          refine lv_iload_n hx hb dX12_statementOf_26 rfl (lv_at hl 0 rfl) ?_
          refine va_iald hx hb hK hP 2 1 rfl rfl (iv_in j103 (by decide) (by decide) : vp_in b89 35) dX12_statementOf_27 ?_
          refine lv_topi (fun v109 ev109 => ?_)
          have iv109 : iv v109 0 48 := iv_eq ev109 (if0 _)
          rw [hQ]
          obtain ⟨hP9, hD9⟩ := nv_sub2 (wc := [(h0, .inr (12, .int x0 :: .ref h1 :: .ref h2 :: .int x1 :: .int x2 :: .int x3 :: .int x4 :: .int x5 :: .int x6 :: .int x7 :: .int x8 :: .int x9 :: [.int x10, .int x11, .int x12, .int x13, .int x14, .int x15, .ref h3, .ref h4, .ref h5, .ref h6, .int x16, .int x17, .int x18, .int x19, .int x20, .int x21, .int x22, .int x23, .ref h7, .int x24, .int x25, .int x26, .int x27, .ref h8, .ref h9, .int x28, .int x29, .long z0, .int x30, .int x31, .ref h10, .ref h11, .ref h12, .ref h13, .ref h14, .int x32, .int x33, .int x34, .int x35, .int x36, .int x37, .int x38, .int x39, .int x40, .ref h15, .ref h16, .int x41, .int x42, .int x43, .int x44, .int x45, .int x46, .int x47, .int x48, .ref h17, .int x49, .int x50, .int x51, .int x52, .int x53])), (h8, .inl (y0, 35, .inr (.inl g0))), (h9, .inl (y1, 35, .inl f0))]) hP hD [0, 1, 2] (by decide) rfl
          have hK9 := hK.sub (tys' := [(y0, .long), (y1, .int)]) [0, 1] rfl
          exact W.iret (v := v109) hx hb hr (fun t ht hW => ⟨⟨v109, (), rfl, ⟨iv_w iv109 (by decide) (by decide), trivial⟩, by rw [ht]; exact hP9, va_K.moved hW.alike hK9, hD9⟩, hS.F ht⟩) hS.2.2 dX12_statementOf_28
  exact lp100 _ 0 (iv_w (by decide : iv 0 0 0) (by decide) (by decide)) (Nat.lt_succ_self _) _ _ hK hP hD hS ls hl
set_option maxHeartbeats 100000000 in
set_option maxRecDepth 100000 in
theorem cX12_registerOf_1 (l : Launch) (dC : Nat → ClassId) (dI : Nat → Nat → Nat) (h0 h1 h2 h3 h4 h5 h6 h7 h8 h9 h10 h11 h12 h13 h14 h15 h16 h17 : Nat) (sz : Nat) (x0 x1 x2 x3 x4 x5 x6 x7 x8 x9 x10 x11 x12 x13 x14 x15 x16 x17 x18 x19 x20 x21 x22 x23 x24 x25 x26 x27 x28 x29 x30 x31 x32 x33 x34 x35 x36 x37 x38 x39 x40 x41 x42 x43 x44 x45 x46 x47 x48 x49 x50 x51 x52 x53 : Int32) (z0 : Int64) (ix15 : iv x15 0 1) (ix16 : iv x16 0 40) (ix21 : iv x21 0 65535) (ix22 : iv x22 0 1) (ix23 : iv x23 0 1) (ix24 : iv x24 0 2600) (ix25 : iv x25 0 2600) (ix26 : iv x26 0 2500) (ix27 : iv x27 0 2500) (ix31 : iv x31 0 1048575) (ix32 : iv x32 0 60) (ix33 : iv x33 0 60) (ix34 : iv x34 0 1) (ix35 : iv x35 0 1) (ix36 : iv x36 0 65535) (ix41 : iv x41 0 5200) (ix42 : iv x42 0 70800) (ix46 : iv x46 0 1) (ix47 : iv x47 0 1) (ix49 : iv x49 0 100) (ix53 : iv x53 0 1) : Met l yX12_registerOf (Cond.code yX12_registerOf cX12_registerOf 1 (some .int) :: lw_G) ({ frames := 1, cells := 0, slots := 0, locals := 20 }) (va_Pc [.ref h0] (fun U => U.heap.size = sz ∧ va_P (dC, dI) vwCl [(h0, .inr (12, .int x0 :: .ref h1 :: .ref h2 :: .int x1 :: .int x2 :: .int x3 :: .int x4 :: .int x5 :: .int x6 :: .int x7 :: .int x8 :: .int x9 :: [.int x10, .int x11, .int x12, .int x13, .int x14, .int x15, .ref h3, .ref h4, .ref h5, .ref h6, .int x16, .int x17, .int x18, .int x19, .int x20, .int x21, .int x22, .int x23, .ref h7, .int x24, .int x25, .int x26, .int x27, .ref h8, .ref h9, .int x28, .int x29, .long z0, .int x30, .int x31, .ref h10, .ref h11, .ref h12, .ref h13, .ref h14, .int x32, .int x33, .int x34, .int x35, .int x36, .int x37, .int x38, .int x39, .int x40, .ref h15, .ref h16, .int x41, .int x42, .int x43, .int x44, .int x45, .int x46, .int x47, .int x48, .ref h17, .int x49, .int x50, .int x51, .int x52, .int x53]))] U.heap ∧ va_K (dC, dI) vwCl [] U ∧ va_D (fun _ => True) [(h0, .inr (12, .int x0 :: .ref h1 :: .ref h2 :: .int x1 :: .int x2 :: .int x3 :: .int x4 :: .int x5 :: .int x6 :: .int x7 :: .int x8 :: .int x9 :: [.int x10, .int x11, .int x12, .int x13, .int x14, .int x15, .ref h3, .ref h4, .ref h5, .ref h6, .int x16, .int x17, .int x18, .int x19, .int x20, .int x21, .int x22, .int x23, .ref h7, .int x24, .int x25, .int x26, .int x27, .ref h8, .ref h9, .int x28, .int x29, .long z0, .int x30, .int x31, .ref h10, .ref h11, .ref h12, .ref h13, .ref h14, .int x32, .int x33, .int x34, .int x35, .int x36, .int x37, .int x38, .int x39, .int x40, .ref h15, .ref h16, .int x41, .int x42, .int x43, .int x44, .int x45, .int x46, .int x47, .int x48, .ref h17, .int x49, .int x50, .int x51, .int x52, .int x53]))])) (va_Qi (fun (r : Int32) (u : Unit) => True) (fun (u : Unit) (t : State) => va_P (dC, dI) vwCl [(h0, .inr (12, .int x0 :: .ref h1 :: .ref h2 :: .int x1 :: .int x2 :: .int x3 :: .int x4 :: .int x5 :: .int x6 :: .int x7 :: .int x8 :: .int x9 :: [.int x10, .int x11, .int x12, .int x13, .int x14, .int x15, .ref h3, .ref h4, .ref h5, .ref h6, .int x16, .int x17, .int x18, .int x19, .int x20, .int x21, .int x22, .int x23, .ref h7, .int x24, .int x25, .int x26, .int x27, .ref h8, .ref h9, .int x28, .int x29, .long z0, .int x30, .int x31, .ref h10, .ref h11, .ref h12, .ref h13, .ref h14, .int x32, .int x33, .int x34, .int x35, .int x36, .int x37, .int x38, .int x39, .int x40, .ref h15, .ref h16, .int x41, .int x42, .int x43, .int x44, .int x45, .int x46, .int x47, .int x48, .ref h17, .int x49, .int x50, .int x51, .int x52, .int x53]))] t.heap ∧ va_K (dC, dI) vwCl [] t ∧ va_D (va_A [(h0, .inr (12, .int x0 :: .ref h1 :: .ref h2 :: .int x1 :: .int x2 :: .int x3 :: .int x4 :: .int x5 :: .int x6 :: .int x7 :: .int x8 :: .int x9 :: [.int x10, .int x11, .int x12, .int x13, .int x14, .int x15, .ref h3, .ref h4, .ref h5, .ref h6, .int x16, .int x17, .int x18, .int x19, .int x20, .int x21, .int x22, .int x23, .ref h7, .int x24, .int x25, .int x26, .int x27, .ref h8, .ref h9, .int x28, .int x29, .long z0, .int x30, .int x31, .ref h10, .ref h11, .ref h12, .ref h13, .ref h14, .int x32, .int x33, .int x34, .int x35, .int x36, .int x37, .int x38, .int x39, .int x40, .ref h15, .ref h16, .int x41, .int x42, .int x43, .int x44, .int x45, .int x46, .int x47, .int x48, .ref h17, .int x49, .int x50, .int x51, .int x52, .int x53]))] sz) [(h0, .inr (12, .int x0 :: .ref h1 :: .ref h2 :: .int x1 :: .int x2 :: .int x3 :: .int x4 :: .int x5 :: .int x6 :: .int x7 :: .int x8 :: .int x9 :: [.int x10, .int x11, .int x12, .int x13, .int x14, .int x15, .ref h3, .ref h4, .ref h5, .ref h6, .int x16, .int x17, .int x18, .int x19, .int x20, .int x21, .int x22, .int x23, .ref h7, .int x24, .int x25, .int x26, .int x27, .ref h8, .ref h9, .int x28, .int x29, .long z0, .int x30, .int x31, .ref h10, .ref h11, .ref h12, .ref h13, .ref h14, .int x32, .int x33, .int x34, .int x35, .int x36, .int x37, .int x38, .int x39, .int x40, .ref h15, .ref h16, .int x41, .int x42, .int x43, .int x44, .int x45, .int x46, .int x47, .int x48, .ref h17, .int x49, .int x50, .int x51, .int x52, .int x53]))]) (va_A [(h0, .inr (12, .int x0 :: .ref h1 :: .ref h2 :: .int x1 :: .int x2 :: .int x3 :: .int x4 :: .int x5 :: .int x6 :: .int x7 :: .int x8 :: .int x9 :: [.int x10, .int x11, .int x12, .int x13, .int x14, .int x15, .ref h3, .ref h4, .ref h5, .ref h6, .int x16, .int x17, .int x18, .int x19, .int x20, .int x21, .int x22, .int x23, .ref h7, .int x24, .int x25, .int x26, .int x27, .ref h8, .ref h9, .int x28, .int x29, .long z0, .int x30, .int x31, .ref h10, .ref h11, .ref h12, .ref h13, .ref h14, .int x32, .int x33, .int x34, .int x35, .int x36, .int x37, .int x38, .int x39, .int x40, .ref h15, .ref h16, .int x41, .int x42, .int x43, .int x44, .int x45, .int x46, .int x47, .int x48, .ref h17, .int x49, .int x50, .int x51, .int x52, .int x53]))] sz)) 0 0 (va_A [(h0, .inr (12, .int x0 :: .ref h1 :: .ref h2 :: .int x1 :: .int x2 :: .int x3 :: .int x4 :: .int x5 :: .int x6 :: .int x7 :: .int x8 :: .int x9 :: [.int x10, .int x11, .int x12, .int x13, .int x14, .int x15, .ref h3, .ref h4, .ref h5, .ref h6, .int x16, .int x17, .int x18, .int x19, .int x20, .int x21, .int x22, .int x23, .ref h7, .int x24, .int x25, .int x26, .int x27, .ref h8, .ref h9, .int x28, .int x29, .long z0, .int x30, .int x31, .ref h10, .ref h11, .ref h12, .ref h13, .ref h14, .int x32, .int x33, .int x34, .int x35, .int x36, .int x37, .int x38, .int x39, .int x40, .ref h15, .ref h16, .int x41, .int x42, .int x43, .int x44, .int x45, .int x46, .int x47, .int x48, .ref h17, .int x49, .int x50, .int x51, .int x52, .int x53]))] sz) := by
  refine Met.ofW (cc := cX12_registerOf) (maxL := 1) (ret := (some .int)) (by decide) rfl ?_
  intro p e s m args below meth c s₁ B hml hv
  obtain ⟨rfl, hsz, hP, hK, hD0⟩ := hv
  have hx := B.exec
  have hb := B.bytes
  have hr := B.returns
  have hts0 := atoms_spec (ws := Cond.code yX12_registerOf cX12_registerOf 1 (some .int) :: lw_G) B.pre
  have hG : ∀ w ∈ lw_G, w.before _ s = true := fun w h => hts0 w (List.mem_cons_of_mem _ h)
  have hown : s.vm.findClass RX12 = some m.cls := findClass_of_methodNamed B.named
  have hlocks := B.notSynchronized
  subst hsz
  have hD := hD0.self (sz := s.heap.size)
  generalize hAe : va_A [(h0, .inr (12, .int x0 :: .ref h1 :: .ref h2 :: .int x1 :: .int x2 :: .int x3 :: .int x4 :: .int x5 :: .int x6 :: .int x7 :: .int x8 :: .int x9 :: [.int x10, .int x11, .int x12, .int x13, .int x14, .int x15, .ref h3, .ref h4, .ref h5, .ref h6, .int x16, .int x17, .int x18, .int x19, .int x20, .int x21, .int x22, .int x23, .ref h7, .int x24, .int x25, .int x26, .int x27, .ref h8, .ref h9, .int x28, .int x29, .long z0, .int x30, .int x31, .ref h10, .ref h11, .ref h12, .ref h13, .ref h14, .int x32, .int x33, .int x34, .int x35, .int x36, .int x37, .int x38, .int x39, .int x40, .ref h15, .ref h16, .int x41, .int x42, .int x43, .int x44, .int x45, .int x46, .int x47, .int x48, .ref h17, .int x49, .int x50, .int x51, .int x52, .int x53]))] s.heap.size = A at hD ⊢
  have hA : ∀ q : Nat, s.heap.size ≤ q → A q := fun q h => by rw [← hAe]; exact Or.inr h
  have hS : va_S A s.heap s.heap [] := va_S.rf
  have hP : va_P (dC, dI) vwCl [(h0, .inr (12, .int x0 :: .ref h1 :: .ref h2 :: .int x1 :: .int x2 :: .int x3 :: .int x4 :: .int x5 :: .int x6 :: .int x7 :: .int x8 :: .int x9 :: [.int x10, .int x11, .int x12, .int x13, .int x14, .int x15, .ref h3, .ref h4, .ref h5, .ref h6, .int x16, .int x17, .int x18, .int x19, .int x20, .int x21, .int x22, .int x23, .ref h7, .int x24, .int x25, .int x26, .int x27, .ref h8, .ref h9, .int x28, .int x29, .long z0, .int x30, .int x31, .ref h10, .ref h11, .ref h12, .ref h13, .ref h14, .int x32, .int x33, .int x34, .int x35, .int x36, .int x37, .int x38, .int x39, .int x40, .ref h15, .ref h16, .int x41, .int x42, .int x43, .int x44, .int x45, .int x46, .int x47, .int x48, .ref h17, .int x49, .int x50, .int x51, .int x52, .int x53]))] s.heap := hP
  have hl := lv_entry ([.ref h0]) (n := 1) (Nat.le_of_ble_eq_true rfl)
  rw [lg_entry_eq]
  generalize (lg_sl ([.ref h0]) ++ List.replicate (1 - (lg_sl ([.ref h0])).length) Slot.unset).toArray = ls at hl ⊢
  have hl : lv_has ls 1 [(0, .ref h0)] := hl
  generalize ([.ref h0] : List Value).toArray = ar at hG ⊢
  refine wq (fun Q hQ => ?_)
  refine lv_aload_n hx hb dX12_registerOf_0 rfl (lv_at hl 0 rfl) ?_
  refine va_get (D := (dC, dI)) (ci := 12) (v := .long z0) (C := RX12) (T := TX12) (N := 72) hx hb hG inGX12 hown hK hP 0 rfl rfl 39 (by decide) (hG _ wd_1346) (fun _ h9 => h9) rfl dX12_registerOf_1 ?_
  refine lv_ldc2 hx hb hown (hG _ wd_1746) dX12_registerOf_4 ?_
  refine W.lcmp hx hb dX12_registerOf_7 ?_
  refine lv_topi (fun v1 ev1 => ?_)
  refine lv_if_ne (tgt := 13) hx hb dX12_registerOf_8 (by decide) (fun c2 => ?_) (fun c2 => ?_)
  · skip
    refine lv_aload_n hx hb dX12_registerOf_13 rfl (lv_at hl 0 rfl) ?_
    refine va_get (D := (dC, dI)) (ci := 12) (v := .long z0) (C := RX12) (T := TX12) (N := 72) hx hb hG inGX12 hown hK hP 0 rfl rfl 39 (by decide) (hG _ wd_1346) (fun _ h9 => h9) rfl dX12_registerOf_14 ?_
    refine lv_ldc2 hx hb hown (hG _ wd_1747) dX12_registerOf_17 ?_
    refine W.lcmp hx hb dX12_registerOf_20 ?_
    refine lv_topi (fun v3 ev3 => ?_)
    refine lv_if_ne (tgt := 26) hx hb dX12_registerOf_21 (by decide) (fun c4 => ?_) (fun c4 => ?_)
    · skip
      refine lv_aload_n hx hb dX12_registerOf_26 rfl (lv_at hl 0 rfl) ?_
      refine va_get (D := (dC, dI)) (ci := 12) (v := .long z0) (C := RX12) (T := TX12) (N := 72) hx hb hG inGX12 hown hK hP 0 rfl rfl 39 (by decide) (hG _ wd_1346) (fun _ h9 => h9) rfl dX12_registerOf_27 ?_
      refine lv_ldc2 hx hb hown (hG _ wd_1748) dX12_registerOf_30 ?_
      refine W.lcmp hx hb dX12_registerOf_33 ?_
      refine lv_topi (fun v5 ev5 => ?_)
      refine lv_if_ne (tgt := 39) hx hb dX12_registerOf_34 (by decide) (fun c6 => ?_) (fun c6 => ?_)
      · skip
        refine lv_aload_n hx hb dX12_registerOf_39 rfl (lv_at hl 0 rfl) ?_
        refine va_get (D := (dC, dI)) (ci := 12) (v := .long z0) (C := RX12) (T := TX12) (N := 72) hx hb hG inGX12 hown hK hP 0 rfl rfl 39 (by decide) (hG _ wd_1346) (fun _ h9 => h9) rfl dX12_registerOf_40 ?_
        refine lv_bipush (v := 8) hx hb dX12_registerOf_43 (by decide) ?_
        refine lv_lshr (v := _) hx hb dX12_registerOf_45 rfl ?_
        refine lv_topl (fun w7 ew7 => ?_)
        refine lv_ldc2 hx hb hown (hG _ wd_1749) dX12_registerOf_46 ?_
        refine W.lcmp hx hb dX12_registerOf_49 ?_
        refine lv_topi (fun v8 ev8 => ?_)
        refine lv_if_ne (tgt := 81) hx hb dX12_registerOf_50 (by decide) (fun c9 => ?_) (fun c9 => ?_)
        · skip
          refine lv_aload_n hx hb dX12_registerOf_81 rfl (lv_at hl 0 rfl) ?_
          refine va_get (D := (dC, dI)) (ci := 12) (v := .long z0) (C := RX12) (T := TX12) (N := 72) hx hb hG inGX12 hown hK hP 0 rfl rfl 39 (by decide) (hG _ wd_1346) (fun _ h9 => h9) rfl dX12_registerOf_82 ?_
          refine lv_bipush (v := 8) hx hb dX12_registerOf_85 (by decide) ?_
          refine lv_lshr (v := _) hx hb dX12_registerOf_87 rfl ?_
          refine lv_topl (fun w10 ew10 => ?_)
          refine lv_ldc2 hx hb hown (hG _ wd_1751) dX12_registerOf_88 ?_
          refine W.lcmp hx hb dX12_registerOf_91 ?_
          refine lv_topi (fun v11 ev11 => ?_)
          refine jcut (a := ∀ (b25 : Int32) (H : Heap) (locs : List Loc) (hK : va_K (dC, dI) vwCl [] s) (hP : va_P (dC, dI) vwCl [(h0, .inr (12, .int x0 :: .ref h1 :: .ref h2 :: .int x1 :: .int x2 :: .int x3 :: .int x4 :: .int x5 :: .int x6 :: .int x7 :: .int x8 :: .int x9 :: [.int x10, .int x11, .int x12, .int x13, .int x14, .int x15, .ref h3, .ref h4, .ref h5, .ref h6, .int x16, .int x17, .int x18, .int x19, .int x20, .int x21, .int x22, .int x23, .ref h7, .int x24, .int x25, .int x26, .int x27, .ref h8, .ref h9, .int x28, .int x29, .long z0, .int x30, .int x31, .ref h10, .ref h11, .ref h12, .ref h13, .ref h14, .int x32, .int x33, .int x34, .int x35, .int x36, .int x37, .int x38, .int x39, .int x40, .ref h15, .ref h16, .int x41, .int x42, .int x43, .int x44, .int x45, .int x46, .int x47, .int x48, .ref h17, .int x49, .int x50, .int x51, .int x52, .int x53]))] H) (hD : va_D A [(h0, .inr (12, .int x0 :: .ref h1 :: .ref h2 :: .int x1 :: .int x2 :: .int x3 :: .int x4 :: .int x5 :: .int x6 :: .int x7 :: .int x8 :: .int x9 :: [.int x10, .int x11, .int x12, .int x13, .int x14, .int x15, .ref h3, .ref h4, .ref h5, .ref h6, .int x16, .int x17, .int x18, .int x19, .int x20, .int x21, .int x22, .int x23, .ref h7, .int x24, .int x25, .int x26, .int x27, .ref h8, .ref h9, .int x28, .int x29, .long z0, .int x30, .int x31, .ref h10, .ref h11, .ref h12, .ref h13, .ref h14, .int x32, .int x33, .int x34, .int x35, .int x36, .int x37, .int x38, .int x39, .int x40, .ref h15, .ref h16, .int x41, .int x42, .int x43, .int x44, .int x45, .int x46, .int x47, .int x48, .ref h17, .int x49, .int x50, .int x51, .int x52, .int x53]))]) (hS : va_S A s.heap H locs) (ls : Array Slot) (hl : lv_has ls 1 []), W p l e (headSpec (Cond.code yX12_registerOf cX12_registerOf 1 (some .int) :: lw_G) ({ frames := 1, cells := 0, slots := 0, locals := 20 })).room s m ar below meth c H locs 0 0 Q (F0 m 133 ls [.int b25])) ?_ (fun j26 => ?_)
          · skip
            intro b25 H locs hK hP hD hS ls hl
            rw [hQ]
            obtain ⟨hP9, hD9⟩ := nv_sub2 (wc := [(h0, .inr (12, .int x0 :: .ref h1 :: .ref h2 :: .int x1 :: .int x2 :: .int x3 :: .int x4 :: .int x5 :: .int x6 :: .int x7 :: .int x8 :: .int x9 :: [.int x10, .int x11, .int x12, .int x13, .int x14, .int x15, .ref h3, .ref h4, .ref h5, .ref h6, .int x16, .int x17, .int x18, .int x19, .int x20, .int x21, .int x22, .int x23, .ref h7, .int x24, .int x25, .int x26, .int x27, .ref h8, .ref h9, .int x28, .int x29, .long z0, .int x30, .int x31, .ref h10, .ref h11, .ref h12, .ref h13, .ref h14, .int x32, .int x33, .int x34, .int x35, .int x36, .int x37, .int x38, .int x39, .int x40, .ref h15, .ref h16, .int x41, .int x42, .int x43, .int x44, .int x45, .int x46, .int x47, .int x48, .ref h17, .int x49, .int x50, .int x51, .int x52, .int x53]))]) hP hD [0] (by decide) rfl
            have hK9 := hK.sub (tys' := []) [] rfl
            exact W.iret (v := b25) hx hb hr (fun t ht hW => ⟨⟨b25, (), rfl, trivial, by rw [ht]; exact hP9, va_K.moved hW.alike hK9, hD9⟩, hS.F ht⟩) hS.2.2 dX12_registerOf_133
          refine lv_if_ne (tgt := 132) hx hb dX12_registerOf_92 (by decide) (fun c12 => ?_) (fun c12 => ?_)
          · skip
            refine lv_iconst (v := (-1)) hx hb dX12_registerOf_132 (by decide) ?_
            exact j26 (-1) _ _ hK hP hD hS ls (lv_sub hl [] rfl)
          · skip
            have j27 : iv v11 0 0 := iv_eqc c12 (by decide)
            refine lv_aload_n hx hb dX12_registerOf_95 rfl (lv_at hl 0 rfl) ?_
            refine va_get (D := (dC, dI)) (ci := 12) (v := .long z0) (C := RX12) (T := TX12) (N := 72) hx hb hG inGX12 hown hK hP 0 rfl rfl 39 (by decide) (hG _ wd_1346) (fun _ h9 => h9) rfl dX12_registerOf_96 ?_
            refine lv_ldc2 hx hb hown (hG _ wd_1752) dX12_registerOf_99 ?_
            refine W.lcmp hx hb dX12_registerOf_102 ?_
            refine lv_topi (fun v28 ev28 => ?_)
            refine lv_if_lt (tgt := 132) hx hb dX12_registerOf_103 (by decide) (fun c29 => ?_) (fun c29 => ?_)
            · skip
              have j30 : iv v28 (-2147483648) (-1) := iv_ltL (iv_any v28) (by decide : iv 0 0 0) c29 (by decide)
              refine lv_iconst (v := (-1)) hx hb dX12_registerOf_132 (by decide) ?_
              exact j26 (-1) _ _ hK hP hD hS ls (lv_sub hl [] rfl)
            · skip
              have j31 : iv v28 0 2147483647 := iv_nltL (iv_any v28) (by decide : iv 0 0 0) c29 (by decide)
              refine lv_aload_n hx hb dX12_registerOf_106 rfl (lv_at hl 0 rfl) ?_
              refine va_get (D := (dC, dI)) (ci := 12) (v := .long z0) (C := RX12) (T := TX12) (N := 72) hx hb hG inGX12 hown hK hP 0 rfl rfl 39 (by decide) (hG _ wd_1346) (fun _ h9 => h9) rfl dX12_registerOf_107 ?_
              refine lv_ldc2 hx hb hown (hG _ wd_1753) dX12_registerOf_110 ?_
              refine W.lcmp hx hb dX12_registerOf_113 ?_
              refine lv_topi (fun v32 ev32 => ?_)
              refine lv_if_gt (tgt := 132) hx hb dX12_registerOf_114 (by decide) (fun c33 => ?_) (fun c33 => ?_)
              · skip
                have j34 : iv v32 1 2147483647 := iv_ltR (by decide : iv 0 0 0) (iv_any v32) c33 (by decide)
                refine lv_iconst (v := (-1)) hx hb dX12_registerOf_132 (by decide) ?_
                exact j26 (-1) _ _ hK hP hD hS ls (lv_sub hl [] rfl)
              · skip
                have j35 : iv v32 (-2147483648) 0 := iv_nltR (by decide : iv 0 0 0) (iv_any v32) c33 (by decide)
                refine lv_aload_n hx hb dX12_registerOf_117 rfl (lv_at hl 0 rfl) ?_
                refine va_get (D := (dC, dI)) (ci := 12) (v := .long z0) (C := RX12) (T := TX12) (N := 72) hx hb hG inGX12 hown hK hP 0 rfl rfl 39 (by decide) (hG _ wd_1346) (fun _ h9 => h9) rfl dX12_registerOf_118 ?_
                refine lv_ldc2 hx hb hown (hG _ wd_1750) dX12_registerOf_121 ?_
                refine lv_land hx hb dX12_registerOf_124 ?_
                refine lv_topl (fun w36 ew36 => ?_)
                refine lv_l2i (v := _) hx hb dX12_registerOf_125 rfl ?_
                refine lv_topi (fun v37 ev37 => ?_)
                refine lv_bipush (v := 38) hx hb dX12_registerOf_126 (by decide) ?_
                refine lv_isub hx hb dX12_registerOf_128 ?_
                refine lv_topi (fun v38 ev38 => ?_)
                refine lv_goto (tgt := 133) hx hb dX12_registerOf_129 (by decide) ?_
                exact j26 v38 _ _ hK hP hD hS ls (lv_sub hl [] rfl)
        · skip
          have j39 : iv v8 0 0 := iv_eqc c9 (by decide)
          refine lv_aload_n hx hb dX12_registerOf_53 rfl (lv_at hl 0 rfl) ?_
          refine va_get (D := (dC, dI)) (ci := 12) (v := .long z0) (C := RX12) (T := TX12) (N := 72) hx hb hG inGX12 hown hK hP 0 rfl rfl 39 (by decide) (hG _ wd_1346) (fun _ h9 => h9) rfl dX12_registerOf_54 ?_
          refine lv_ldc2 hx hb hown (hG _ wd_1750) dX12_registerOf_57 ?_
          refine lv_land hx hb dX12_registerOf_60 ?_
          refine lv_topl (fun w40 ew40 => ?_)
          refine lv_l2i (v := _) hx hb dX12_registerOf_61 rfl ?_
          refine lv_topi (fun v41 ev41 => ?_)
          obtain ⟨hPc, hDc, hFc⟩ := nv_sub3 (wc := []) hP hD hS hA [] (by decide) rfl
          have hKc := hK.sub (tys' := []) [] rfl
          refine va_calli (va_runS (As := [.int v41]) (rest := []) ⟨hx, hb, hml, hown, hG⟩ (cX12_isDigit_1 l dC dI s.heap.size v41) (va_cwS 1 hG (gS wd_1735 wd_1736 wd_17 wd_1737) rfl rfl rfl (by decide +kernel) ⟨Nat.le_of_ble_eq_true rfl, Nat.le_of_ble_eq_true rfl⟩) ⟨fun a U g mk q => by obtain ⟨q0, q1, qP, qK, qD⟩ := q; exact ⟨q0, q1, qP, va_K.moved (u := U) (U := U.calling g mk a) (Vm.Alike.refl U.vm) qK, qD⟩, fun U hU hW => ⟨rfl, by rw [hU], by rw [hU]; exact hPc, va_K.moved hW.alike hKc, hDc.weaken (fun _ _ _ _ => trivial)⟩⟩ rfl rfl hl.1 rfl (lv_room (Nat.le_of_ble_eq_true rfl)) dX12_registerOf_62 ⟨by decide, by decide⟩) hS (fun q _ h => hFc q h) hFc (fun r42 u43 t H1 locs ht hvm hw hB hz1 hk1 hS => ?_)
          have hw : iv r42 0 1 ∧ (48 * r42.toInt ≤ v41.toInt + 2147483648 * (1 - r42.toInt)) ∧ (v41.toInt ≤ 57 * r42.toInt + 2147483647 * (1 - r42.toInt)) ∧ (r42.toInt = 1 ∨ v41.toInt < 48 ∨ 57 < v41.toInt) ∧ True := hw
          obtain ⟨ir42, op44, op45, op46, -⟩ := hw
          obtain ⟨hP1, hK1, hD1⟩ := hB
          rw [ht] at hP1
          have hK1 := va_K.moved hvm.symm hK1
          obtain ⟨hP, hD⟩ := nv_join (wf := [(h0, .inr (12, .int x0 :: .ref h1 :: .ref h2 :: .int x1 :: .int x2 :: .int x3 :: .int x4 :: .int x5 :: .int x6 :: .int x7 :: .int x8 :: .int x9 :: [.int x10, .int x11, .int x12, .int x13, .int x14, .int x15, .ref h3, .ref h4, .ref h5, .ref h6, .int x16, .int x17, .int x18, .int x19, .int x20, .int x21, .int x22, .int x23, .ref h7, .int x24, .int x25, .int x26, .int x27, .ref h8, .ref h9, .int x28, .int x29, .long z0, .int x30, .int x31, .ref h10, .ref h11, .ref h12, .ref h13, .ref h14, .int x32, .int x33, .int x34, .int x35, .int x36, .int x37, .int x38, .int x39, .int x40, .ref h15, .ref h16, .int x41, .int x42, .int x43, .int x44, .int x45, .int x46, .int x47, .int x48, .ref h17, .int x49, .int x50, .int x51, .int x52, .int x53]))]) hP hD [] [0] rfl rfl (by decide) (by decide) hk1 hFc hP1 hD1 rfl
          have hK := (hK.sub (tys' := []) [] rfl).app hK1
          generalize H1 = H at hP hS ⊢
          have hK : va_K (dC, dI) vwCl [] s := hK
          clear hKc hPc hDc hFc hP1 hD1 hK1 hk1 hz1
          refine lv_if_eq (tgt := 81) hx hb dX12_registerOf_65 (by decide) (fun c47 => ?_) (fun c47 => ?_)
          · skip
            have j48 : iv r42 0 0 := iv_eqc c47 (by decide)
            refine lv_aload_n hx hb dX12_registerOf_81 rfl (lv_at hl 0 rfl) ?_
            refine va_get (D := (dC, dI)) (ci := 12) (v := .long z0) (C := RX12) (T := TX12) (N := 72) hx hb hG inGX12 hown hK hP 0 rfl rfl 39 (by decide) (hG _ wd_1346) (fun _ h9 => h9) rfl dX12_registerOf_82 ?_
            refine lv_bipush (v := 8) hx hb dX12_registerOf_85 (by decide) ?_
            refine lv_lshr (v := _) hx hb dX12_registerOf_87 rfl ?_
            refine lv_topl (fun w49 ew49 => ?_)
            refine lv_ldc2 hx hb hown (hG _ wd_1751) dX12_registerOf_88 ?_
            refine W.lcmp hx hb dX12_registerOf_91 ?_
            refine lv_topi (fun v50 ev50 => ?_)
            refine jcut (a := ∀ (b64 : Int32) (H : Heap) (locs : List Loc) (hK : va_K (dC, dI) vwCl [] s) (hP : va_P (dC, dI) vwCl [(h0, .inr (12, .int x0 :: .ref h1 :: .ref h2 :: .int x1 :: .int x2 :: .int x3 :: .int x4 :: .int x5 :: .int x6 :: .int x7 :: .int x8 :: .int x9 :: [.int x10, .int x11, .int x12, .int x13, .int x14, .int x15, .ref h3, .ref h4, .ref h5, .ref h6, .int x16, .int x17, .int x18, .int x19, .int x20, .int x21, .int x22, .int x23, .ref h7, .int x24, .int x25, .int x26, .int x27, .ref h8, .ref h9, .int x28, .int x29, .long z0, .int x30, .int x31, .ref h10, .ref h11, .ref h12, .ref h13, .ref h14, .int x32, .int x33, .int x34, .int x35, .int x36, .int x37, .int x38, .int x39, .int x40, .ref h15, .ref h16, .int x41, .int x42, .int x43, .int x44, .int x45, .int x46, .int x47, .int x48, .ref h17, .int x49, .int x50, .int x51, .int x52, .int x53]))] H) (hD : va_D A [(h0, .inr (12, .int x0 :: .ref h1 :: .ref h2 :: .int x1 :: .int x2 :: .int x3 :: .int x4 :: .int x5 :: .int x6 :: .int x7 :: .int x8 :: .int x9 :: [.int x10, .int x11, .int x12, .int x13, .int x14, .int x15, .ref h3, .ref h4, .ref h5, .ref h6, .int x16, .int x17, .int x18, .int x19, .int x20, .int x21, .int x22, .int x23, .ref h7, .int x24, .int x25, .int x26, .int x27, .ref h8, .ref h9, .int x28, .int x29, .long z0, .int x30, .int x31, .ref h10, .ref h11, .ref h12, .ref h13, .ref h14, .int x32, .int x33, .int x34, .int x35, .int x36, .int x37, .int x38, .int x39, .int x40, .ref h15, .ref h16, .int x41, .int x42, .int x43, .int x44, .int x45, .int x46, .int x47, .int x48, .ref h17, .int x49, .int x50, .int x51, .int x52, .int x53]))]) (hS : va_S A s.heap H locs) (ls : Array Slot) (hl : lv_has ls 1 []), W p l e (headSpec (Cond.code yX12_registerOf cX12_registerOf 1 (some .int) :: lw_G) ({ frames := 1, cells := 0, slots := 0, locals := 20 })).room s m ar below meth c H locs 0 0 Q (F0 m 133 ls [.int b64])) ?_ (fun j65 => ?_)
            · skip
              intro b64 H locs hK hP hD hS ls hl
              rw [hQ]
              obtain ⟨hP9, hD9⟩ := nv_sub2 (wc := [(h0, .inr (12, .int x0 :: .ref h1 :: .ref h2 :: .int x1 :: .int x2 :: .int x3 :: .int x4 :: .int x5 :: .int x6 :: .int x7 :: .int x8 :: .int x9 :: [.int x10, .int x11, .int x12, .int x13, .int x14, .int x15, .ref h3, .ref h4, .ref h5, .ref h6, .int x16, .int x17, .int x18, .int x19, .int x20, .int x21, .int x22, .int x23, .ref h7, .int x24, .int x25, .int x26, .int x27, .ref h8, .ref h9, .int x28, .int x29, .long z0, .int x30, .int x31, .ref h10, .ref h11, .ref h12, .ref h13, .ref h14, .int x32, .int x33, .int x34, .int x35, .int x36, .int x37, .int x38, .int x39, .int x40, .ref h15, .ref h16, .int x41, .int x42, .int x43, .int x44, .int x45, .int x46, .int x47, .int x48, .ref h17, .int x49, .int x50, .int x51, .int x52, .int x53]))]) hP hD [0] (by decide) rfl
              have hK9 := hK.sub (tys' := []) [] rfl
              exact W.iret (v := b64) hx hb hr (fun t ht hW => ⟨⟨b64, (), rfl, trivial, by rw [ht]; exact hP9, va_K.moved hW.alike hK9, hD9⟩, hS.F ht⟩) hS.2.2 dX12_registerOf_133
            refine lv_if_ne (tgt := 132) hx hb dX12_registerOf_92 (by decide) (fun c51 => ?_) (fun c51 => ?_)
            · skip
              refine lv_iconst (v := (-1)) hx hb dX12_registerOf_132 (by decide) ?_
              exact j65 (-1) _ _ hK hP hD hS ls (lv_sub hl [] rfl)
            · skip
              have j66 : iv v50 0 0 := iv_eqc c51 (by decide)
              refine lv_aload_n hx hb dX12_registerOf_95 rfl (lv_at hl 0 rfl) ?_
              refine va_get (D := (dC, dI)) (ci := 12) (v := .long z0) (C := RX12) (T := TX12) (N := 72) hx hb hG inGX12 hown hK hP 0 rfl rfl 39 (by decide) (hG _ wd_1346) (fun _ h9 => h9) rfl dX12_registerOf_96 ?_
              refine lv_ldc2 hx hb hown (hG _ wd_1752) dX12_registerOf_99 ?_
              refine W.lcmp hx hb dX12_registerOf_102 ?_
              refine lv_topi (fun v67 ev67 => ?_)
              refine lv_if_lt (tgt := 132) hx hb dX12_registerOf_103 (by decide) (fun c68 => ?_) (fun c68 => ?_)
              · skip
                have j69 : iv v67 (-2147483648) (-1) := iv_ltL (iv_any v67) (by decide : iv 0 0 0) c68 (by decide)
                refine lv_iconst (v := (-1)) hx hb dX12_registerOf_132 (by decide) ?_
                exact j65 (-1) _ _ hK hP hD hS ls (lv_sub hl [] rfl)
              · skip
                have j70 : iv v67 0 2147483647 := iv_nltL (iv_any v67) (by decide : iv 0 0 0) c68 (by decide)
                refine lv_aload_n hx hb dX12_registerOf_106 rfl (lv_at hl 0 rfl) ?_
                refine va_get (D := (dC, dI)) (ci := 12) (v := .long z0) (C := RX12) (T := TX12) (N := 72) hx hb hG inGX12 hown hK hP 0 rfl rfl 39 (by decide) (hG _ wd_1346) (fun _ h9 => h9) rfl dX12_registerOf_107 ?_
                refine lv_ldc2 hx hb hown (hG _ wd_1753) dX12_registerOf_110 ?_
                refine W.lcmp hx hb dX12_registerOf_113 ?_
                refine lv_topi (fun v71 ev71 => ?_)
                refine lv_if_gt (tgt := 132) hx hb dX12_registerOf_114 (by decide) (fun c72 => ?_) (fun c72 => ?_)
                · skip
                  have j73 : iv v71 1 2147483647 := iv_ltR (by decide : iv 0 0 0) (iv_any v71) c72 (by decide)
                  refine lv_iconst (v := (-1)) hx hb dX12_registerOf_132 (by decide) ?_
                  exact j65 (-1) _ _ hK hP hD hS ls (lv_sub hl [] rfl)
                · skip
                  have j74 : iv v71 (-2147483648) 0 := iv_nltR (by decide : iv 0 0 0) (iv_any v71) c72 (by decide)
                  refine lv_aload_n hx hb dX12_registerOf_117 rfl (lv_at hl 0 rfl) ?_
                  refine va_get (D := (dC, dI)) (ci := 12) (v := .long z0) (C := RX12) (T := TX12) (N := 72) hx hb hG inGX12 hown hK hP 0 rfl rfl 39 (by decide) (hG _ wd_1346) (fun _ h9 => h9) rfl dX12_registerOf_118 ?_
                  refine lv_ldc2 hx hb hown (hG _ wd_1750) dX12_registerOf_121 ?_
                  refine lv_land hx hb dX12_registerOf_124 ?_
                  refine lv_topl (fun w75 ew75 => ?_)
                  refine lv_l2i (v := _) hx hb dX12_registerOf_125 rfl ?_
                  refine lv_topi (fun v76 ev76 => ?_)
                  refine lv_bipush (v := 38) hx hb dX12_registerOf_126 (by decide) ?_
                  refine lv_isub hx hb dX12_registerOf_128 ?_
                  refine lv_topi (fun v77 ev77 => ?_)
                  refine lv_goto (tgt := 133) hx hb dX12_registerOf_129 (by decide) ?_
                  exact j65 v77 _ _ hK hP hD hS ls (lv_sub hl [] rfl)
          · skip
            have j78 : iv r42 1 1 := iv_neLo ir42 (by decide : iv 0 0 0) c47 (by decide)
            refine lv_aload_n hx hb dX12_registerOf_68 rfl (lv_at hl 0 rfl) ?_
            refine va_get (D := (dC, dI)) (ci := 12) (v := .long z0) (C := RX12) (T := TX12) (N := 72) hx hb hG inGX12 hown hK hP 0 rfl rfl 39 (by decide) (hG _ wd_1346) (fun _ h9 => h9) rfl dX12_registerOf_69 ?_
            refine lv_ldc2 hx hb hown (hG _ wd_1750) dX12_registerOf_72 ?_
            refine lv_land hx hb dX12_registerOf_75 ?_
            refine lv_topl (fun w79 ew79 => ?_)
            refine lv_l2i (v := _) hx hb dX12_registerOf_76 rfl ?_
            refine lv_topi (fun v80 ev80 => ?_)
            refine lv_bipush (v := 48) hx hb dX12_registerOf_77 (by decide) ?_
            refine lv_isub hx hb dX12_registerOf_79 ?_
            refine lv_topi (fun v81 ev81 => ?_)
            rw [hQ]
            obtain ⟨hP9, hD9⟩ := nv_sub2 (wc := [(h0, .inr (12, .int x0 :: .ref h1 :: .ref h2 :: .int x1 :: .int x2 :: .int x3 :: .int x4 :: .int x5 :: .int x6 :: .int x7 :: .int x8 :: .int x9 :: [.int x10, .int x11, .int x12, .int x13, .int x14, .int x15, .ref h3, .ref h4, .ref h5, .ref h6, .int x16, .int x17, .int x18, .int x19, .int x20, .int x21, .int x22, .int x23, .ref h7, .int x24, .int x25, .int x26, .int x27, .ref h8, .ref h9, .int x28, .int x29, .long z0, .int x30, .int x31, .ref h10, .ref h11, .ref h12, .ref h13, .ref h14, .int x32, .int x33, .int x34, .int x35, .int x36, .int x37, .int x38, .int x39, .int x40, .ref h15, .ref h16, .int x41, .int x42, .int x43, .int x44, .int x45, .int x46, .int x47, .int x48, .ref h17, .int x49, .int x50, .int x51, .int x52, .int x53]))]) hP hD [0] (by decide) rfl
            have hK9 := hK.sub (tys' := []) [] rfl
            exact W.iret (v := v81) hx hb hr (fun t ht hW => ⟨⟨v81, (), rfl, trivial, by rw [ht]; exact hP9, va_K.moved hW.alike hK9, hD9⟩, hS.F ht⟩) hS.2.2 dX12_registerOf_80
      · skip
        have j82 : iv v5 0 0 := iv_eqc c6 (by decide)
        refine lv_iconst (v := 2) hx hb dX12_registerOf_37 (by decide) ?_
        rw [hQ]
        obtain ⟨hP9, hD9⟩ := nv_sub2 (wc := [(h0, .inr (12, .int x0 :: .ref h1 :: .ref h2 :: .int x1 :: .int x2 :: .int x3 :: .int x4 :: .int x5 :: .int x6 :: .int x7 :: .int x8 :: .int x9 :: [.int x10, .int x11, .int x12, .int x13, .int x14, .int x15, .ref h3, .ref h4, .ref h5, .ref h6, .int x16, .int x17, .int x18, .int x19, .int x20, .int x21, .int x22, .int x23, .ref h7, .int x24, .int x25, .int x26, .int x27, .ref h8, .ref h9, .int x28, .int x29, .long z0, .int x30, .int x31, .ref h10, .ref h11, .ref h12, .ref h13, .ref h14, .int x32, .int x33, .int x34, .int x35, .int x36, .int x37, .int x38, .int x39, .int x40, .ref h15, .ref h16, .int x41, .int x42, .int x43, .int x44, .int x45, .int x46, .int x47, .int x48, .ref h17, .int x49, .int x50, .int x51, .int x52, .int x53]))]) hP hD [0] (by decide) rfl
        have hK9 := hK.sub (tys' := []) [] rfl
        exact W.iret (v := 2) hx hb hr (fun t ht hW => ⟨⟨2, (), rfl, trivial, by rw [ht]; exact hP9, va_K.moved hW.alike hK9, hD9⟩, hS.F ht⟩) hS.2.2 dX12_registerOf_38
    · skip
      have j83 : iv v3 0 0 := iv_eqc c4 (by decide)
      refine lv_iconst (v := 1) hx hb dX12_registerOf_24 (by decide) ?_
      rw [hQ]
      obtain ⟨hP9, hD9⟩ := nv_sub2 (wc := [(h0, .inr (12, .int x0 :: .ref h1 :: .ref h2 :: .int x1 :: .int x2 :: .int x3 :: .int x4 :: .int x5 :: .int x6 :: .int x7 :: .int x8 :: .int x9 :: [.int x10, .int x11, .int x12, .int x13, .int x14, .int x15, .ref h3, .ref h4, .ref h5, .ref h6, .int x16, .int x17, .int x18, .int x19, .int x20, .int x21, .int x22, .int x23, .ref h7, .int x24, .int x25, .int x26, .int x27, .ref h8, .ref h9, .int x28, .int x29, .long z0, .int x30, .int x31, .ref h10, .ref h11, .ref h12, .ref h13, .ref h14, .int x32, .int x33, .int x34, .int x35, .int x36, .int x37, .int x38, .int x39, .int x40, .ref h15, .ref h16, .int x41, .int x42, .int x43, .int x44, .int x45, .int x46, .int x47, .int x48, .ref h17, .int x49, .int x50, .int x51, .int x52, .int x53]))]) hP hD [0] (by decide) rfl
      have hK9 := hK.sub (tys' := []) [] rfl
      exact W.iret (v := 1) hx hb hr (fun t ht hW => ⟨⟨1, (), rfl, trivial, by rw [ht]; exact hP9, va_K.moved hW.alike hK9, hD9⟩, hS.F ht⟩) hS.2.2 dX12_registerOf_25
  · skip
    have j84 : iv v1 0 0 := iv_eqc c2 (by decide)
    refine lv_iconst (v := 0) hx hb dX12_registerOf_11 (by decide) ?_
    rw [hQ]
    obtain ⟨hP9, hD9⟩ := nv_sub2 (wc := [(h0, .inr (12, .int x0 :: .ref h1 :: .ref h2 :: .int x1 :: .int x2 :: .int x3 :: .int x4 :: .int x5 :: .int x6 :: .int x7 :: .int x8 :: .int x9 :: [.int x10, .int x11, .int x12, .int x13, .int x14, .int x15, .ref h3, .ref h4, .ref h5, .ref h6, .int x16, .int x17, .int x18, .int x19, .int x20, .int x21, .int x22, .int x23, .ref h7, .int x24, .int x25, .int x26, .int x27, .ref h8, .ref h9, .int x28, .int x29, .long z0, .int x30, .int x31, .ref h10, .ref h11, .ref h12, .ref h13, .ref h14, .int x32, .int x33, .int x34, .int x35, .int x36, .int x37, .int x38, .int x39, .int x40, .ref h15, .ref h16, .int x41, .int x42, .int x43, .int x44, .int x45, .int x46, .int x47, .int x48, .ref h17, .int x49, .int x50, .int x51, .int x52, .int x53]))]) hP hD [0] (by decide) rfl
    have hK9 := hK.sub (tys' := []) [] rfl
    exact W.iret (v := 0) hx hb hr (fun t ht hW => ⟨⟨0, (), rfl, trivial, by rw [ht]; exact hP9, va_K.moved hW.alike hK9, hD9⟩, hS.F ht⟩) hS.2.2 dX12_registerOf_12
set_option maxHeartbeats 100000000 in
set_option maxRecDepth 100000 in
theorem cX12_must_1 (l : Launch) (dC : Nat → ClassId) (dI : Nat → Nat → Nat) (h0 h1 h2 h3 h4 h5 h6 h7 h8 h9 h10 h11 h12 h13 h14 h15 h16 h17 : Nat) (y0 : ClassId) (sz : Nat) (x0 x1 x2 x3 x4 x5 x6 x7 x8 x9 x10 x11 x12 x13 x14 x15 x16 x17 x18 x19 x20 x21 x22 x23 x24 x25 x26 x27 x28 x29 x30 x31 x32 x33 x34 x35 x36 x37 x38 x39 x40 x41 x42 x43 x44 x45 x46 x47 x48 x49 x50 x51 x52 x53 : Int32) (z0 : Int64) (f0 : Nat → Int32) (ix15 : iv x15 0 1) (ix16 : iv x16 0 40) (ix21 : iv x21 0 65535) (ix22 : iv x22 0 1) (ix23 : iv x23 0 1) (ix24 : iv x24 0 2600) (ix25 : iv x25 0 2600) (ix26 : iv x26 0 2500) (ix27 : iv x27 0 2500) (ix31 : iv x31 0 1048575) (ix32 : iv x32 0 60) (ix33 : iv x33 0 60) (ix34 : iv x34 0 1) (ix35 : iv x35 0 1) (ix36 : iv x36 0 65535) (ix41 : iv x41 0 5200) (ix42 : iv x42 0 70800) (ix46 : iv x46 0 1) (ix47 : iv x47 0 1) (ix49 : iv x49 0 100) (ix53 : iv x53 0 1) (if0 : ∀ j, iv (f0 j) (-128) 127) (q0 : x26.toInt ≤ x27.toInt) : Met l yX12_must (Cond.code yX12_must cX12_must 2 (some .boolean) :: lw_G) ({ frames := 2, cells := 0, slots := 0, locals := 40 }) (va_Pc [.ref h0, .int 58] (fun U => U.heap.size = sz ∧ va_P (dC, dI) vwCl [(h0, .inr (12, .int x0 :: .ref h1 :: .ref h2 :: .int x1 :: .int x2 :: .int x3 :: .int x4 :: .int x5 :: .int x6 :: .int x7 :: .int x8 :: .int x9 :: [.int x10, .int x11, .int x12, .int x13, .int x14, .int x15, .ref h3, .ref h4, .ref h5, .ref h6, .int x16, .int x17, .int x18, .int x19, .int x20, .int x21, .int x22, .int x23, .ref h7, .int x24, .int x25, .int x26, .int x27, .ref h8, .ref h9, .int x28, .int x29, .long z0, .int x30, .int x31, .ref h10, .ref h11, .ref h12, .ref h13, .ref h14, .int x32, .int x33, .int x34, .int x35, .int x36, .int x37, .int x38, .int x39, .int x40, .ref h15, .ref h16, .int x41, .int x42, .int x43, .int x44, .int x45, .int x46, .int x47, .int x48, .ref h17, .int x49, .int x50, .int x51, .int x52, .int x53])), (h7, .inl (y0, 2600, .inl f0))] U.heap ∧ va_K (dC, dI) vwCl [(y0, .byte)] U ∧ va_D (fun _ => True) [(h0, .inr (12, .int x0 :: .ref h1 :: .ref h2 :: .int x1 :: .int x2 :: .int x3 :: .int x4 :: .int x5 :: .int x6 :: .int x7 :: .int x8 :: .int x9 :: [.int x10, .int x11, .int x12, .int x13, .int x14, .int x15, .ref h3, .ref h4, .ref h5, .ref h6, .int x16, .int x17, .int x18, .int x19, .int x20, .int x21, .int x22, .int x23, .ref h7, .int x24, .int x25, .int x26, .int x27, .ref h8, .ref h9, .int x28, .int x29, .long z0, .int x30, .int x31, .ref h10, .ref h11, .ref h12, .ref h13, .ref h14, .int x32, .int x33, .int x34, .int x35, .int x36, .int x37, .int x38, .int x39, .int x40, .ref h15, .ref h16, .int x41, .int x42, .int x43, .int x44, .int x45, .int x46, .int x47, .int x48, .ref h17, .int x49, .int x50, .int x51, .int x52, .int x53])), (h7, .inl (y0, 2600, .inl f0))])) (va_Qi (fun (r : Int32) (u : Int32 × Int32 × Int32) => iv r 0 1 ∧ iv u.1 0 2500 ∧ (x26.toInt ≤ u.1.toInt) ∧ (u.1.toInt ≤ x27.toInt) ∧ (x26.toInt + r.toInt ≤ u.1.toInt) ∧ True) (fun (u : Int32 × Int32 × Int32) (t : State) => va_P (dC, dI) vwCl [(h0, .inr (12, .int x0 :: .ref h1 :: .ref h2 :: .int x1 :: .int x2 :: .int x3 :: .int x4 :: .int x5 :: .int x6 :: .int x7 :: .int x8 :: .int x9 :: [.int x10, .int x11, .int x12, .int x13, .int x14, .int x15, .ref h3, .ref h4, .ref h5, .ref h6, .int x16, .int x17, .int x18, .int x19, .int x20, .int x21, .int x22, .int x23, .ref h7, .int x24, .int x25, .int u.1, .int x27, .ref h8, .ref h9, .int u.2.1, .int u.2.2, .long z0, .int x30, .int x31, .ref h10, .ref h11, .ref h12, .ref h13, .ref h14, .int x32, .int x33, .int x34, .int x35, .int x36, .int x37, .int x38, .int x39, .int x40, .ref h15, .ref h16, .int x41, .int x42, .int x43, .int x44, .int x45, .int x46, .int x47, .int x48, .ref h17, .int x49, .int x50, .int x51, .int x52, .int x53])), (h7, .inl (y0, 2600, .inl f0))] t.heap ∧ va_K (dC, dI) vwCl [(y0, .byte)] t ∧ va_D (va_A [(h0, .inr (12, .int x0 :: .ref h1 :: .ref h2 :: .int x1 :: .int x2 :: .int x3 :: .int x4 :: .int x5 :: .int x6 :: .int x7 :: .int x8 :: .int x9 :: [.int x10, .int x11, .int x12, .int x13, .int x14, .int x15, .ref h3, .ref h4, .ref h5, .ref h6, .int x16, .int x17, .int x18, .int x19, .int x20, .int x21, .int x22, .int x23, .ref h7, .int x24, .int x25, .int x26, .int x27, .ref h8, .ref h9, .int x28, .int x29, .long z0, .int x30, .int x31, .ref h10, .ref h11, .ref h12, .ref h13, .ref h14, .int x32, .int x33, .int x34, .int x35, .int x36, .int x37, .int x38, .int x39, .int x40, .ref h15, .ref h16, .int x41, .int x42, .int x43, .int x44, .int x45, .int x46, .int x47, .int x48, .ref h17, .int x49, .int x50, .int x51, .int x52, .int x53])), (h7, .inl (y0, 2600, .inl f0))] sz) [(h0, .inr (12, .int x0 :: .ref h1 :: .ref h2 :: .int x1 :: .int x2 :: .int x3 :: .int x4 :: .int x5 :: .int x6 :: .int x7 :: .int x8 :: .int x9 :: [.int x10, .int x11, .int x12, .int x13, .int x14, .int x15, .ref h3, .ref h4, .ref h5, .ref h6, .int x16, .int x17, .int x18, .int x19, .int x20, .int x21, .int x22, .int x23, .ref h7, .int x24, .int x25, .int u.1, .int x27, .ref h8, .ref h9, .int u.2.1, .int u.2.2, .long z0, .int x30, .int x31, .ref h10, .ref h11, .ref h12, .ref h13, .ref h14, .int x32, .int x33, .int x34, .int x35, .int x36, .int x37, .int x38, .int x39, .int x40, .ref h15, .ref h16, .int x41, .int x42, .int x43, .int x44, .int x45, .int x46, .int x47, .int x48, .ref h17, .int x49, .int x50, .int x51, .int x52, .int x53])), (h7, .inl (y0, 2600, .inl f0))]) (va_A [(h0, .inr (12, .int x0 :: .ref h1 :: .ref h2 :: .int x1 :: .int x2 :: .int x3 :: .int x4 :: .int x5 :: .int x6 :: .int x7 :: .int x8 :: .int x9 :: [.int x10, .int x11, .int x12, .int x13, .int x14, .int x15, .ref h3, .ref h4, .ref h5, .ref h6, .int x16, .int x17, .int x18, .int x19, .int x20, .int x21, .int x22, .int x23, .ref h7, .int x24, .int x25, .int x26, .int x27, .ref h8, .ref h9, .int x28, .int x29, .long z0, .int x30, .int x31, .ref h10, .ref h11, .ref h12, .ref h13, .ref h14, .int x32, .int x33, .int x34, .int x35, .int x36, .int x37, .int x38, .int x39, .int x40, .ref h15, .ref h16, .int x41, .int x42, .int x43, .int x44, .int x45, .int x46, .int x47, .int x48, .ref h17, .int x49, .int x50, .int x51, .int x52, .int x53])), (h7, .inl (y0, 2600, .inl f0))] sz)) 0 0 (va_A [(h0, .inr (12, .int x0 :: .ref h1 :: .ref h2 :: .int x1 :: .int x2 :: .int x3 :: .int x4 :: .int x5 :: .int x6 :: .int x7 :: .int x8 :: .int x9 :: [.int x10, .int x11, .int x12, .int x13, .int x14, .int x15, .ref h3, .ref h4, .ref h5, .ref h6, .int x16, .int x17, .int x18, .int x19, .int x20, .int x21, .int x22, .int x23, .ref h7, .int x24, .int x25, .int x26, .int x27, .ref h8, .ref h9, .int x28, .int x29, .long z0, .int x30, .int x31, .ref h10, .ref h11, .ref h12, .ref h13, .ref h14, .int x32, .int x33, .int x34, .int x35, .int x36, .int x37, .int x38, .int x39, .int x40, .ref h15, .ref h16, .int x41, .int x42, .int x43, .int x44, .int x45, .int x46, .int x47, .int x48, .ref h17, .int x49, .int x50, .int x51, .int x52, .int x53])), (h7, .inl (y0, 2600, .inl f0))] sz) := by
  refine Met.ofW (cc := cX12_must) (maxL := 2) (ret := (some .boolean)) (by decide) rfl ?_
  intro p e s m args below meth c s₁ B hml hv
  obtain ⟨rfl, hsz, hP, hK, hD0⟩ := hv
  have hx := B.exec
  have hb := B.bytes
  have hr := B.returns
  have hts0 := atoms_spec (ws := Cond.code yX12_must cX12_must 2 (some .boolean) :: lw_G) B.pre
  have hG : ∀ w ∈ lw_G, w.before _ s = true := fun w h => hts0 w (List.mem_cons_of_mem _ h)
  have hown : s.vm.findClass RX12 = some m.cls := findClass_of_methodNamed B.named
  have hlocks := B.notSynchronized
  subst hsz
  have hD := hD0.self (sz := s.heap.size)
  generalize hAe : va_A [(h0, .inr (12, .int x0 :: .ref h1 :: .ref h2 :: .int x1 :: .int x2 :: .int x3 :: .int x4 :: .int x5 :: .int x6 :: .int x7 :: .int x8 :: .int x9 :: [.int x10, .int x11, .int x12, .int x13, .int x14, .int x15, .ref h3, .ref h4, .ref h5, .ref h6, .int x16, .int x17, .int x18, .int x19, .int x20, .int x21, .int x22, .int x23, .ref h7, .int x24, .int x25, .int x26, .int x27, .ref h8, .ref h9, .int x28, .int x29, .long z0, .int x30, .int x31, .ref h10, .ref h11, .ref h12, .ref h13, .ref h14, .int x32, .int x33, .int x34, .int x35, .int x36, .int x37, .int x38, .int x39, .int x40, .ref h15, .ref h16, .int x41, .int x42, .int x43, .int x44, .int x45, .int x46, .int x47, .int x48, .ref h17, .int x49, .int x50, .int x51, .int x52, .int x53])), (h7, .inl (y0, 2600, .inl f0))] s.heap.size = A at hD ⊢
  have hA : ∀ q : Nat, s.heap.size ≤ q → A q := fun q h => by rw [← hAe]; exact Or.inr h
  have hS : va_S A s.heap s.heap [] := va_S.rf
  have hP : va_P (dC, dI) vwCl [(h0, .inr (12, .int x0 :: .ref h1 :: .ref h2 :: .int x1 :: .int x2 :: .int x3 :: .int x4 :: .int x5 :: .int x6 :: .int x7 :: .int x8 :: .int x9 :: [.int x10, .int x11, .int x12, .int x13, .int x14, .int x15, .ref h3, .ref h4, .ref h5, .ref h6, .int x16, .int x17, .int x18, .int x19, .int x20, .int x21, .int x22, .int x23, .ref h7, .int x24, .int x25, .int x26, .int x27, .ref h8, .ref h9, .int x28, .int x29, .long z0, .int x30, .int x31, .ref h10, .ref h11, .ref h12, .ref h13, .ref h14, .int x32, .int x33, .int x34, .int x35, .int x36, .int x37, .int x38, .int x39, .int x40, .ref h15, .ref h16, .int x41, .int x42, .int x43, .int x44, .int x45, .int x46, .int x47, .int x48, .ref h17, .int x49, .int x50, .int x51, .int x52, .int x53])), (h7, .inl (y0, 2600, .inl f0))] s.heap := hP
  have hl := lv_entry ([.ref h0, .int 58]) (n := 2) (Nat.le_of_ble_eq_true rfl)
  rw [lg_entry_eq]
  generalize (lg_sl ([.ref h0, .int 58]) ++ List.replicate (2 - (lg_sl ([.ref h0, .int 58])).length) Slot.unset).toArray = ls at hl ⊢
  have hl : lv_has ls 2 [(0, .ref h0), (1, .int 58)] := hl
  generalize ([.ref h0, .int 58] : List Value).toArray = ar at hG ⊢
  refine wq (fun Q hQ => ?_)
  refine lv_aload_n hx hb dX12_must_0 rfl (lv_at hl 0 rfl) ?_
  obtain ⟨hPc, hDc, hFc⟩ := nv_sub3 (wc := [(h0, .inr (12, .int x0 :: .ref h1 :: .ref h2 :: .int x1 :: .int x2 :: .int x3 :: .int x4 :: .int x5 :: .int x6 :: .int x7 :: .int x8 :: .int x9 :: [.int x10, .int x11, .int x12, .int x13, .int x14, .int x15, .ref h3, .ref h4, .ref h5, .ref h6, .int x16, .int x17, .int x18, .int x19, .int x20, .int x21, .int x22, .int x23, .ref h7, .int x24, .int x25, .int x26, .int x27, .ref h8, .ref h9, .int x28, .int x29, .long z0, .int x30, .int x31, .ref h10, .ref h11, .ref h12, .ref h13, .ref h14, .int x32, .int x33, .int x34, .int x35, .int x36, .int x37, .int x38, .int x39, .int x40, .ref h15, .ref h16, .int x41, .int x42, .int x43, .int x44, .int x45, .int x46, .int x47, .int x48, .ref h17, .int x49, .int x50, .int x51, .int x52, .int x53])), (h7, .inl (y0, 2600, .inl f0))]) hP hD hS hA [0, 1] (by decide) rfl
  have hKc := hK.sub (tys' := [(y0, .byte)]) [0] rfl
  have oh1 : x26.toInt ≤ x27.toInt := by omega
  refine va_callv (va_runV (As := []) (rest := []) ⟨hx, hb, hml, hown, hG⟩ (cX12_blanks_1 l dC dI h0 h1 h2 h3 h4 h5 h6 h7 h8 h9 h10 h11 h12 h13 h14 h15 h16 h17 y0 s.heap.size x0 x1 x2 x3 x4 x5 x6 x7 x8 x9 x10 x11 x12 x13 x14 x15 x16 x17 x18 x19 x20 x21 x22 x23 x24 x25 x26 x27 x28 x29 x30 x31 x32 x33 x34 x35 x36 x37 x38 x39 x40 x41 x42 x43 x44 x45 x46 x47 x48 x49 x50 x51 x52 x53 z0 f0 ix15 ix16 ix21 ix22 ix23 ix24 ix25 ix26 ix27 ix31 ix32 ix33 ix34 ix35 ix36 ix41 ix42 ix46 ix47 ix49 ix53 if0 oh1) (cwV 0 hG (gV wd_1716 wd_1718 wp_98 wd_17 wd_1719) rfl rfl rfl (by decide +kernel) ⟨Nat.le_of_ble_eq_true rfl, Nat.le_of_ble_eq_true rfl⟩) ⟨fun a U g mk q => by obtain ⟨q0, q1, qP, qK, qD⟩ := q; exact ⟨q0, q1, qP, va_K.moved (u := U) (U := U.calling g mk a) (Vm.Alike.refl U.vm) qK, qD⟩, va_recv hKc hPc (ci := 12) (q0 := 0) rfl rfl, fun U hU hW => ⟨rfl, by rw [hU], by rw [hU]; exact hPc, va_K.moved hW.alike hKc, hDc.weaken (fun _ _ _ _ => trivial)⟩⟩ rfl rfl hl.1 rfl (lv_room (Nat.le_of_ble_eq_true rfl)) dX12_must_1 ⟨by decide, by decide⟩) hS (fun q _ h => hFc q h) hFc (fun u3 t H1 locs ht hvm hw hB hz1 hk1 hS => ?_)
  obtain ⟨u3_0, rfl⟩ : ∃ z, z = u3 := ⟨_, rfl⟩
  have hw : iv u3_0 0 2500 ∧ (x26.toInt ≤ u3_0.toInt) ∧ (u3_0.toInt ≤ x27.toInt) ∧ True := hw
  obtain ⟨iu3_0, op4, op5, -⟩ := hw
  obtain ⟨hP1, hK1, hD1⟩ := hB
  rw [ht] at hP1
  have hK1 := va_K.moved hvm.symm hK1
  obtain ⟨hP, hD⟩ := nv_join (wf := [(h0, .inr (12, .int x0 :: .ref h1 :: .ref h2 :: .int x1 :: .int x2 :: .int x3 :: .int x4 :: .int x5 :: .int x6 :: .int x7 :: .int x8 :: .int x9 :: [.int x10, .int x11, .int x12, .int x13, .int x14, .int x15, .ref h3, .ref h4, .ref h5, .ref h6, .int x16, .int x17, .int x18, .int x19, .int x20, .int x21, .int x22, .int x23, .ref h7, .int x24, .int x25, .int u3_0, .int x27, .ref h8, .ref h9, .int x28, .int x29, .long z0, .int x30, .int x31, .ref h10, .ref h11, .ref h12, .ref h13, .ref h14, .int x32, .int x33, .int x34, .int x35, .int x36, .int x37, .int x38, .int x39, .int x40, .ref h15, .ref h16, .int x41, .int x42, .int x43, .int x44, .int x45, .int x46, .int x47, .int x48, .ref h17, .int x49, .int x50, .int x51, .int x52, .int x53])), (h7, .inl (y0, 2600, .inl f0))]) hP hD [0, 1] [] rfl rfl (by decide) (by decide) hk1 hFc hP1 hD1 rfl
  have hK := (hK.sub (tys' := []) [] rfl).app hK1
  generalize H1 = H at hP hS ⊢
  have hK : va_K (dC, dI) vwCl [(y0, .byte)] s := hK
  clear hKc hPc hDc hFc hP1 hD1 hK1 hk1 hz1
  refine lv_aload_n hx hb dX12_must_4 rfl (lv_at hl 0 rfl) ?_
  obtain ⟨hPc, hDc, hFc⟩ := nv_sub3 (wc := [(h0, .inr (12, .int x0 :: .ref h1 :: .ref h2 :: .int x1 :: .int x2 :: .int x3 :: .int x4 :: .int x5 :: .int x6 :: .int x7 :: .int x8 :: .int x9 :: [.int x10, .int x11, .int x12, .int x13, .int x14, .int x15, .ref h3, .ref h4, .ref h5, .ref h6, .int x16, .int x17, .int x18, .int x19, .int x20, .int x21, .int x22, .int x23, .ref h7, .int x24, .int x25, .int u3_0, .int x27, .ref h8, .ref h9, .int x28, .int x29, .long z0, .int x30, .int x31, .ref h10, .ref h11, .ref h12, .ref h13, .ref h14, .int x32, .int x33, .int x34, .int x35, .int x36, .int x37, .int x38, .int x39, .int x40, .ref h15, .ref h16, .int x41, .int x42, .int x43, .int x44, .int x45, .int x46, .int x47, .int x48, .ref h17, .int x49, .int x50, .int x51, .int x52, .int x53])), (h7, .inl (y0, 2600, .inl f0))]) hP hD hS hA [0, 1] (by decide) rfl
  have hKc := hK.sub (tys' := [(y0, .byte)]) [0] rfl
  have oh6 : u3_0.toInt ≤ x27.toInt := by omega
  refine va_calli (va_runV (As := []) (rest := []) ⟨hx, hb, hml, hown, hG⟩ (cX12_peek__1 l dC dI h0 h1 h2 h3 h4 h5 h6 h7 h8 h9 h10 h11 h12 h13 h14 h15 h16 h17 y0 H.size x0 x1 x2 x3 x4 x5 x6 x7 x8 x9 x10 x11 x12 x13 x14 x15 x16 x17 x18 x19 x20 x21 x22 x23 x24 x25 u3_0 x27 x28 x29 x30 x31 x32 x33 x34 x35 x36 x37 x38 x39 x40 x41 x42 x43 x44 x45 x46 x47 x48 x49 x50 x51 x52 x53 z0 f0 ix15 ix16 ix21 ix22 ix23 ix24 ix25 iu3_0 ix27 ix31 ix32 ix33 ix34 ix35 ix36 ix41 ix42 ix46 ix47 ix49 ix53 if0 oh6) (cwV 0 hG (gV wd_1720 wd_1722 wp_99 wd_17 wd_1723) rfl rfl rfl (by decide +kernel) ⟨Nat.le_of_ble_eq_true rfl, Nat.le_of_ble_eq_true rfl⟩) ⟨fun a U g mk q => by obtain ⟨q0, q1, qP, qK, qD⟩ := q; exact ⟨q0, q1, qP, va_K.moved (u := U) (U := U.calling g mk a) (Vm.Alike.refl U.vm) qK, qD⟩, va_recv hKc hPc (ci := 12) (q0 := 0) rfl rfl, fun U hU hW => ⟨rfl, by rw [hU], by rw [hU]; exact hPc, va_K.moved hW.alike hKc, hDc.weaken (fun _ _ _ _ => trivial)⟩⟩ rfl rfl hl.1 rfl (lv_room (Nat.le_of_ble_eq_true rfl)) dX12_must_5 ⟨by decide, by decide⟩) hS (fun q _ h => hFc q h) hFc (fun r7 u8 t H1 locs ht hvm hw hB hz1 hk1 hS => ?_)
  have hw : iv r7 (-1) 255 ∧ (256 * (u3_0.toInt + 1 - x27.toInt) ≤ 255 - r7.toInt) ∧ (r7.toInt = (pkf u3_0 x27 f0).toInt) ∧ True := hw
  obtain ⟨ir7, op9, op10, -⟩ := hw
  obtain ⟨hP1, hK1, hD1⟩ := hB
  rw [ht] at hP1
  have hK1 := va_K.moved hvm.symm hK1
  obtain ⟨hP, hD⟩ := nv_join (wf := [(h0, .inr (12, .int x0 :: .ref h1 :: .ref h2 :: .int x1 :: .int x2 :: .int x3 :: .int x4 :: .int x5 :: .int x6 :: .int x7 :: .int x8 :: .int x9 :: [.int x10, .int x11, .int x12, .int x13, .int x14, .int x15, .ref h3, .ref h4, .ref h5, .ref h6, .int x16, .int x17, .int x18, .int x19, .int x20, .int x21, .int x22, .int x23, .ref h7, .int x24, .int x25, .int u3_0, .int x27, .ref h8, .ref h9, .int x28, .int x29, .long z0, .int x30, .int x31, .ref h10, .ref h11, .ref h12, .ref h13, .ref h14, .int x32, .int x33, .int x34, .int x35, .int x36, .int x37, .int x38, .int x39, .int x40, .ref h15, .ref h16, .int x41, .int x42, .int x43, .int x44, .int x45, .int x46, .int x47, .int x48, .ref h17, .int x49, .int x50, .int x51, .int x52, .int x53])), (h7, .inl (y0, 2600, .inl f0))]) hP hD [0, 1] [] rfl rfl (by decide) (by decide) hk1 hFc hP1 hD1 rfl
  have hK := (hK.sub (tys' := []) [] rfl).app hK1
  generalize H1 = H at hP hS ⊢
  have hK : va_K (dC, dI) vwCl [(y0, .byte)] s := hK
  clear hKc hPc hDc hFc hP1 hD1 hK1 hk1 hz1
  refine lv_iload_n hx hb dX12_must_8 rfl (lv_at hl 1 rfl) ?_
  refine lv_icmp_eq (tgt := 22) hx hb dX12_must_9 (by decide) (fun c11 => ?_) (fun c11 => ?_)
  · skip
    have j12 : iv r7 58 58 := iv_eqc c11 (by decide)
    refine lv_aload_n hx hb dX12_must_22 rfl (lv_at hl 0 rfl) ?_
    refine lv_dup hx hb dX12_must_23 rfl ?_
    refine va_get (D := (dC, dI)) (ci := 12) (v := .int u3_0) (C := RX12) (T := TX12) (N := 72) hx hb hG inGX12 hown hK hP 0 rfl rfl 33 (by decide) (hG _ wd_1340) (fun _ h9 => h9) rfl dX12_must_24 ?_
    refine lv_iconst (v := 1) hx hb dX12_must_27 (by decide) ?_
    refine lv_iadd hx hb dX12_must_28 ?_
    refine lv_topi (fun v13 ev13 => ?_)
    have iv13 : iv v13 1 2501 := iv_eq ev13 (iv_add iu3_0 (by decide : iv 1 1 1) (by decide) (by decide))
    have tv13 : v13.toInt = u3_0.toInt + 1 := iv_addT ev13 iu3_0 (by decide) (by decide) (by decide)
    have j14 : iv v13 1 2500 := ⟨by omega, by omega⟩
    refine va_put (D := (dC, dI)) (ci := 12) (v := .int v13) (ty := .int) (C := RX12) (T := TX12) (N := 72) hx hb hG inGX12 tyX12 tyX12_ok nmX12 hown hK hP hD hS 0 rfl rfl 33 (by decide) (hG _ wd_1340) (fun _ h9 => h9) rfl (by decide +kernel) rfl rfl (Nat.le_of_ble_eq_true rfl) dX12_must_29 (fun H locs hP hD hS => ?_)
    obtain ⟨hP, hD⟩ := nv_eq (ws' := [(h0, .inr (12, .int x0 :: .ref h1 :: .ref h2 :: .int x1 :: .int x2 :: .int x3 :: .int x4 :: .int x5 :: .int x6 :: .int x7 :: .int x8 :: .int x9 :: [.int x10, .int x11, .int x12, .int x13, .int x14, .int x15, .ref h3, .ref h4, .ref h5, .ref h6, .int x16, .int x17, .int x18, .int x19, .int x20, .int x21, .int x22, .int x23, .ref h7, .int x24, .int x25, .int v13, .int x27, .ref h8, .ref h9, .int x28, .int x29, .long z0, .int x30, .int x31, .ref h10, .ref h11, .ref h12, .ref h13, .ref h14, .int x32, .int x33, .int x34, .int x35, .int x36, .int x37, .int x38, .int x39, .int x40, .ref h15, .ref h16, .int x41, .int x42, .int x43, .int x44, .int x45, .int x46, .int x47, .int x48, .ref h17, .int x49, .int x50, .int x51, .int x52, .int x53])), (h7, .inl (y0, 2600, .inl f0))]) hP hD rfl
    refine lv_iconst (v := 1) hx hb dX12_must_32 (by decide) ?_
    rw [hQ]
    obtain ⟨hP9, hD9⟩ := nv_sub2 (wc := [(h0, .inr (12, .int x0 :: .ref h1 :: .ref h2 :: .int x1 :: .int x2 :: .int x3 :: .int x4 :: .int x5 :: .int x6 :: .int x7 :: .int x8 :: .int x9 :: [.int x10, .int x11, .int x12, .int x13, .int x14, .int x15, .ref h3, .ref h4, .ref h5, .ref h6, .int x16, .int x17, .int x18, .int x19, .int x20, .int x21, .int x22, .int x23, .ref h7, .int x24, .int x25, .int v13, .int x27, .ref h8, .ref h9, .int x28, .int x29, .long z0, .int x30, .int x31, .ref h10, .ref h11, .ref h12, .ref h13, .ref h14, .int x32, .int x33, .int x34, .int x35, .int x36, .int x37, .int x38, .int x39, .int x40, .ref h15, .ref h16, .int x41, .int x42, .int x43, .int x44, .int x45, .int x46, .int x47, .int x48, .ref h17, .int x49, .int x50, .int x51, .int x52, .int x53])), (h7, .inl (y0, 2600, .inl f0))]) hP hD [0, 1] (by decide) rfl
    have hK9 := hK.sub (tys' := [(y0, .byte)]) [0] rfl
    have oh15 : x26.toInt ≤ v13.toInt := by omega
    have oh16 : v13.toInt ≤ x27.toInt := by omega
    have kc1 : (1 : Int32).toInt = 1 := by decide
    have oh17 : x26.toInt + (1 : Int32).toInt ≤ v13.toInt := by omega
    exact W.zret (v := 1) hx hb hr rfl (fun t ht hW => ⟨⟨1, (v13, x28, x29), rfl, ⟨iv_w (by decide : iv 1 1 1) (by decide) (by decide), iv_w j14 (by decide) (by decide), oh15, oh16, oh17, trivial⟩, by rw [ht]; exact hP9, va_K.moved hW.alike hK9, hD9⟩, hS.F ht⟩) hS.2.2 dX12_must_33
  · skip
    refine lv_aload_n hx hb dX12_must_12 rfl (lv_at hl 0 rfl) ?_
    refine lv_iconst (v := 1) hx hb dX12_must_13 (by decide) ?_
    refine lv_aload_n hx hb dX12_must_14 rfl (lv_at hl 0 rfl) ?_
    refine va_get (D := (dC, dI)) (ci := 12) (v := .int u3_0) (C := RX12) (T := TX12) (N := 72) hx hb hG inGX12 hown hK hP 0 rfl rfl 33 (by decide) (hG _ wd_1340) (fun _ h9 => h9) rfl dX12_must_15 ?_
    obtain ⟨hPc, hDc, hFc⟩ := nv_sub3 (wc := [(h0, .inr (12, .int x0 :: .ref h1 :: .ref h2 :: .int x1 :: .int x2 :: .int x3 :: .int x4 :: .int x5 :: .int x6 :: .int x7 :: .int x8 :: .int x9 :: [.int x10, .int x11, .int x12, .int x13, .int x14, .int x15, .ref h3, .ref h4, .ref h5, .ref h6, .int x16, .int x17, .int x18, .int x19, .int x20, .int x21, .int x22, .int x23, .ref h7, .int x24, .int x25, .int u3_0, .int x27, .ref h8, .ref h9, .int x28, .int x29, .long z0, .int x30, .int x31, .ref h10, .ref h11, .ref h12, .ref h13, .ref h14, .int x32, .int x33, .int x34, .int x35, .int x36, .int x37, .int x38, .int x39, .int x40, .ref h15, .ref h16, .int x41, .int x42, .int x43, .int x44, .int x45, .int x46, .int x47, .int x48, .ref h17, .int x49, .int x50, .int x51, .int x52, .int x53]))]) hP hD hS hA [0] (by decide) rfl
    have hKc := hK.sub (tys' := []) [] rfl
    refine va_calli (va_runV (As := [.int 1, .int u3_0]) (rest := []) ⟨hx, hb, hml, hown, hG⟩ (cX12_wrong_1 l dC dI h0 h1 h2 h3 h4 h5 h6 h7 h8 h9 h10 h11 h12 h13 h14 h15 h16 h17 H.size 1 u3_0 x0 x1 x2 x3 x4 x5 x6 x7 x8 x9 x10 x11 x12 x13 x14 x15 x16 x17 x18 x19 x20 x21 x22 x23 x24 x25 u3_0 x27 x28 x29 x30 x31 x32 x33 x34 x35 x36 x37 x38 x39 x40 x41 x42 x43 x44 x45 x46 x47 x48 x49 x50 x51 x52 x53 z0 ix15 ix16 ix21 ix22 ix23 ix24 ix25 iu3_0 ix27 ix31 ix32 ix33 ix34 ix35 ix36 ix41 ix42 ix46 ix47 ix49 ix53) (cwV 2 hG (gV wd_1731 wd_1733 wp_101 wd_17 wd_1734) rfl rfl rfl (by decide +kernel) ⟨Nat.le_of_ble_eq_true rfl, Nat.le_of_ble_eq_true rfl⟩) ⟨fun a U g mk q => by obtain ⟨q0, q1, qP, qK, qD⟩ := q; exact ⟨q0, q1, qP, va_K.moved (u := U) (U := U.calling g mk a) (Vm.Alike.refl U.vm) qK, qD⟩, va_recv hKc hPc (ci := 12) (q0 := 0) rfl rfl, fun U hU hW => ⟨rfl, by rw [hU], by rw [hU]; exact hPc, va_K.moved hW.alike hKc, hDc.weaken (fun _ _ _ _ => trivial)⟩⟩ rfl rfl hl.1 rfl (lv_room (Nat.le_of_ble_eq_true rfl)) dX12_must_18 ⟨by decide, by decide⟩) hS (fun q _ h => hFc q h) hFc (fun r18 u19 t H1 locs ht hvm hw hB hz1 hk1 hS => ?_)
    have hw : r18 = 0 ∧ True := hw
    obtain ⟨er18, -⟩ := hw
    obtain ⟨hP1, hK1, hD1⟩ := hB
    rw [ht] at hP1
    have hK1 := va_K.moved hvm.symm hK1
    obtain ⟨hP, hD⟩ := nv_join (wf := [(h7, .inl (y0, 2600, .inl f0)), (h0, .inr (12, .int x0 :: .ref h1 :: .ref h2 :: .int x1 :: .int x2 :: .int x3 :: .int x4 :: .int x5 :: .int x6 :: .int x7 :: .int x8 :: .int x9 :: [.int x10, .int x11, .int x12, .int x13, .int x14, .int x15, .ref h3, .ref h4, .ref h5, .ref h6, .int x16, .int x17, .int x18, .int x19, .int x20, .int x21, .int x22, .int x23, .ref h7, .int x24, .int x25, .int u3_0, .int x27, .ref h8, .ref h9, .int 1, .int u3_0, .long z0, .int x30, .int x31, .ref h10, .ref h11, .ref h12, .ref h13, .ref h14, .int x32, .int x33, .int x34, .int x35, .int x36, .int x37, .int x38, .int x39, .int x40, .ref h15, .ref h16, .int x41, .int x42, .int x43, .int x44, .int x45, .int x46, .int x47, .int x48, .ref h17, .int x49, .int x50, .int x51, .int x52, .int x53]))]) hP hD [0] [1] rfl rfl (by decide) (by decide) hk1 hFc hP1 hD1 rfl
    have hK := (hK.sub (tys' := [(y0, .byte)]) [0] rfl).app hK1
    generalize H1 = H at hP hS ⊢
    have hK : va_K (dC, dI) vwCl [(y0, .byte)] s := hK
    clear hKc hPc hDc hFc hP1 hD1 hK1 hk1 hz1
    subst er18
    rw [hQ]
    obtain ⟨hP9, hD9⟩ := nv_sub2 (wc := [(h0, .inr (12, .int x0 :: .ref h1 :: .ref h2 :: .int x1 :: .int x2 :: .int x3 :: .int x4 :: .int x5 :: .int x6 :: .int x7 :: .int x8 :: .int x9 :: [.int x10, .int x11, .int x12, .int x13, .int x14, .int x15, .ref h3, .ref h4, .ref h5, .ref h6, .int x16, .int x17, .int x18, .int x19, .int x20, .int x21, .int x22, .int x23, .ref h7, .int x24, .int x25, .int u3_0, .int x27, .ref h8, .ref h9, .int 1, .int u3_0, .long z0, .int x30, .int x31, .ref h10, .ref h11, .ref h12, .ref h13, .ref h14, .int x32, .int x33, .int x34, .int x35, .int x36, .int x37, .int x38, .int x39, .int x40, .ref h15, .ref h16, .int x41, .int x42, .int x43, .int x44, .int x45, .int x46, .int x47, .int x48, .ref h17, .int x49, .int x50, .int x51, .int x52, .int x53])), (h7, .inl (y0, 2600, .inl f0))]) hP hD [1, 0] (by decide) rfl
    have hK9 := hK.sub (tys' := [(y0, .byte)]) [0] rfl
    have oh20 : x26.toInt ≤ u3_0.toInt := by omega
    have oh21 : u3_0.toInt ≤ x27.toInt := by omega
    have kc0 : (0 : Int32).toInt = 0 := by decide
    have oh22 : x26.toInt + (0 : Int32).toInt ≤ u3_0.toInt := by omega
    exact W.zret (v := 0) hx hb hr rfl (fun t ht hW => ⟨⟨0, (u3_0, 1, u3_0), rfl, ⟨iv_w (by decide : iv 0 0 0) (by decide) (by decide), iv_w iu3_0 (by decide) (by decide), oh20, oh21, oh22, trivial⟩, by rw [ht]; exact hP9, va_K.moved hW.alike hK9, hD9⟩, hS.F ht⟩) hS.2.2 dX12_must_21
