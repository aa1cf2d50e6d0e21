set_option maxHeartbeats 100000000 in
set_option maxRecDepth 100000 in
theorem cX12_peekWord_1 (l : Launch) (dC : Nat → ClassId) (dI : Nat → Nat → Nat) (h0 h1 h2 h3 h4 h5 h6 h7 h8 h9 h10 h11 h12 h13 h14 h15 h16 h17 : Nat) (y0 y1 y2 : ClassId) (sz : Nat) (x0 x1 x2 x3 x4 x5 x6 x7 x8 x9 x10 x11 x12 x13 x14 x15 x16 x17 x18 x19 x20 x21 x22 x23 x24 x25 x26 x27 x28 x29 x30 x31 x32 x33 x34 x35 x36 x37 x38 x39 x40 x41 x42 x43 x44 x45 x46 x47 x48 x49 x50 x51 x52 x53 x54 : Int32) (z0 : Int64) (f0 f1 f2 : Nat → Int32) (ix16 : iv x16 0 1) (ix17 : iv x17 0 40) (ix22 : iv x22 0 65535) (ix23 : iv x23 0 1) (ix24 : iv x24 0 1) (ix25 : iv x25 0 2600) (ix26 : iv x26 0 2600) (ix27 : iv x27 0 2500) (ix28 : iv x28 0 2500) (ix32 : iv x32 0 1048575) (ix33 : iv x33 0 60) (ix34 : iv x34 0 60) (ix35 : iv x35 0 1) (ix36 : iv x36 0 1) (ix37 : iv x37 0 65535) (ix42 : iv x42 0 5200) (ix43 : iv x43 0 70800) (ix47 : iv x47 0 1) (ix48 : iv x48 0 1) (ix50 : iv x50 0 100) (ix54 : iv x54 0 1) (if2 : ∀ j, iv (f2 j) (-128) 127) : Met l yX12_peekWord (Cond.code yX12_peekWord cX12_peekWord 3 (some .int) :: lw_G) ({ frames := 3, cells := 0, slots := 0, locals := 62 }) (va_Pc [.ref h0, .int x0] (fun U => U.heap.size = sz ∧ va_P (dC, dI) vwCl [(h0, .inr (12, .int x1 :: .ref h1 :: .ref h2 :: .int x2 :: .int x3 :: .int x4 :: .int x5 :: .int x6 :: .int x7 :: .int x8 :: .int x9 :: .int x10 :: [.int x11, .int x12, .int x13, .int x14, .int x15, .int x16, .ref h3, .ref h4, .ref h5, .ref h6, .int x17, .int x18, .int x19, .int x20, .int x21, .int x22, .int x23, .int x24, .ref h7, .int x25, .int x26, .int x27, .int x28, .ref h8, .ref h9, .int x29, .int x30, .long z0, .int x31, .int x32, .ref h10, .ref h11, .ref h12, .ref h13, .ref h14, .int x33, .int x34, .int x35, .int x36, .int x37, .int x38, .int x39, .int x40, .int x41, .ref h15, .ref h16, .int x42, .int x43, .int x44, .int x45, .int x46, .int x47, .int x48, .int x49, .ref h17, .int x50, .int x51, .int x52, .int x53, .int x54])), (h3, .inl (y0, 3, .inl f0)), (h4, .inl (y1, 3, .inl f1)), (h1, .inl (y2, 65536, .inl f2))] U.heap ∧ va_K (dC, dI) vwCl [(y0, .int), (y1, .int), (y2, .byte)] U ∧ va_D (fun _ => True) [(h0, .inr (12, .int x1 :: .ref h1 :: .ref h2 :: .int x2 :: .int x3 :: .int x4 :: .int x5 :: .int x6 :: .int x7 :: .int x8 :: .int x9 :: .int x10 :: [.int x11, .int x12, .int x13, .int x14, .int x15, .int x16, .ref h3, .ref h4, .ref h5, .ref h6, .int x17, .int x18, .int x19, .int x20, .int x21, .int x22, .int x23, .int x24, .ref h7, .int x25, .int x26, .int x27, .int x28, .ref h8, .ref h9, .int x29, .int x30, .long z0, .int x31, .int x32, .ref h10, .ref h11, .ref h12, .ref h13, .ref h14, .int x33, .int x34, .int x35, .int x36, .int x37, .int x38, .int x39, .int x40, .int x41, .ref h15, .ref h16, .int x42, .int x43, .int x44, .int x45, .int x46, .int x47, .int x48, .int x49, .ref h17, .int x50, .int x51, .int x52, .int x53, .int x54])), (h3, .inl (y0, 3, .inl f0)), (h4, .inl (y1, 3, .inl f1)), (h1, .inl (y2, 65536, .inl f2))])) (va_Qi (fun (r : Int32) (u : Unit) => True) (fun (u : Unit) (t : State) => va_P (dC, dI) vwCl [(h0, .inr (12, .int x1 :: .ref h1 :: .ref h2 :: .int x2 :: .int x3 :: .int x4 :: .int x5 :: .int x6 :: .int x7 :: .int x8 :: .int x9 :: .int x10 :: [.int x11, .int x12, .int x13, .int x14, .int x15, .int x16, .ref h3, .ref h4, .ref h5, .ref h6, .int x17, .int x18, .int x19, .int x20, .int x21, .int x22, .int x23, .int x24, .ref h7, .int x25, .int x26, .int x27, .int x28, .ref h8, .ref h9, .int x29, .int x30, .long z0, .int x31, .int x32, .ref h10, .ref h11, .ref h12, .ref h13, .ref h14, .int x33, .int x34, .int x35, .int x36, .int x37, .int x38, .int x39, .int x40, .int x41, .ref h15, .ref h16, .int x42, .int x43, .int x44, .int x45, .int x46, .int x47, .int x48, .int x49, .ref h17, .int x50, .int x51, .int x52, .int x53, .int x54])), (h3, .inl (y0, 3, .inl f0)), (h4, .inl (y1, 3, .inl f1)), (h1, .inl (y2, 65536, .inl f2))] t.heap ∧ va_K (dC, dI) vwCl [(y0, .int), (y1, .int), (y2, .byte)] t ∧ va_D (va_A [(h0, .inr (12, .int x1 :: .ref h1 :: .ref h2 :: .int x2 :: .int x3 :: .int x4 :: .int x5 :: .int x6 :: .int x7 :: .int x8 :: .int x9 :: .int x10 :: [.int x11, .int x12, .int x13, .int x14, .int x15, .int x16, .ref h3, .ref h4, .ref h5, .ref h6, .int x17, .int x18, .int x19, .int x20, .int x21, .int x22, .int x23, .int x24, .ref h7, .int x25, .int x26, .int x27, .int x28, .ref h8, .ref h9, .int x29, .int x30, .long z0, .int x31, .int x32, .ref h10, .ref h11, .ref h12, .ref h13, .ref h14, .int x33, .int x34, .int x35, .int x36, .int x37, .int x38, .int x39, .int x40, .int x41, .ref h15, .ref h16, .int x42, .int x43, .int x44, .int x45, .int x46, .int x47, .int x48, .int x49, .ref h17, .int x50, .int x51, .int x52, .int x53, .int x54])), (h3, .inl (y0, 3, .inl f0)), (h4, .inl (y1, 3, .inl f1)), (h1, .inl (y2, 65536, .inl f2))] sz) [(h0, .inr (12, .int x1 :: .ref h1 :: .ref h2 :: .int x2 :: .int x3 :: .int x4 :: .int x5 :: .int x6 :: .int x7 :: .int x8 :: .int x9 :: .int x10 :: [.int x11, .int x12, .int x13, .int x14, .int x15, .int x16, .ref h3, .ref h4, .ref h5, .ref h6, .int x17, .int x18, .int x19, .int x20, .int x21, .int x22, .int x23, .int x24, .ref h7, .int x25, .int x26, .int x27, .int x28, .ref h8, .ref h9, .int x29, .int x30, .long z0, .int x31, .int x32, .ref h10, .ref h11, .ref h12, .ref h13, .ref h14, .int x33, .int x34, .int x35, .int x36, .int x37, .int x38, .int x39, .int x40, .int x41, .ref h15, .ref h16, .int x42, .int x43, .int x44, .int x45, .int x46, .int x47, .int x48, .int x49, .ref h17, .int x50, .int x51, .int x52, .int x53, .int x54])), (h3, .inl (y0, 3, .inl f0)), (h4, .inl (y1, 3, .inl f1)), (h1, .inl (y2, 65536, .inl f2))]) (va_A [(h0, .inr (12, .int x1 :: .ref h1 :: .ref h2 :: .int x2 :: .int x3 :: .int x4 :: .int x5 :: .int x6 :: .int x7 :: .int x8 :: .int x9 :: .int x10 :: [.int x11, .int x12, .int x13, .int x14, .int x15, .int x16, .ref h3, .ref h4, .ref h5, .ref h6, .int x17, .int x18, .int x19, .int x20, .int x21, .int x22, .int x23, .int x24, .ref h7, .int x25, .int x26, .int x27, .int x28, .ref h8, .ref h9, .int x29, .int x30, .long z0, .int x31, .int x32, .ref h10, .ref h11, .ref h12, .ref h13, .ref h14, .int x33, .int x34, .int x35, .int x36, .int x37, .int x38, .int x39, .int x40, .int x41, .ref h15, .ref h16, .int x42, .int x43, .int x44, .int x45, .int x46, .int x47, .int x48, .int x49, .ref h17, .int x50, .int x51, .int x52, .int x53, .int x54])), (h3, .inl (y0, 3, .inl f0)), (h4, .inl (y1, 3, .inl f1)), (h1, .inl (y2, 65536, .inl f2))] sz)) 0 0 (va_A [(h0, .inr (12, .int x1 :: .ref h1 :: .ref h2 :: .int x2 :: .int x3 :: .int x4 :: .int x5 :: .int x6 :: .int x7 :: .int x8 :: .int x9 :: .int x10 :: [.int x11, .int x12, .int x13, .int x14, .int x15, .int x16, .ref h3, .ref h4, .ref h5, .ref h6, .int x17, .int x18, .int x19, .int x20, .int x21, .int x22, .int x23, .int x24, .ref h7, .int x25, .int x26, .int x27, .int x28, .ref h8, .ref h9, .int x29, .int x30, .long z0, .int x31, .int x32, .ref h10, .ref h11, .ref h12, .ref h13, .ref h14, .int x33, .int x34, .int x35, .int x36, .int x37, .int x38, .int x39, .int x40, .int x41, .ref h15, .ref h16, .int x42, .int x43, .int x44, .int x45, .int x46, .int x47, .int x48, .int x49, .ref h17, .int x50, .int x51, .int x52, .int x53, .int x54])), (h3, .inl (y0, 3, .inl f0)), (h4, .inl (y1, 3, .inl f1)), (h1, .inl (y2, 65536, .inl f2))] sz) := by
  refine Met.ofW (cc := cX12_peekWord) (maxL := 3) (ret := (some .int)) (by decide) rfl ?_
  intro p e s m args below meth c s₁ B hml hv
  obtain ⟨rfl, hsz, hP, hK, hD0⟩ := hv
  have hx := B.exec
  have hb := B.bytes
  have hr := B.returns
  have hts0 := atoms_spec (ws := Cond.code yX12_peekWord cX12_peekWord 3 (some .int) :: lw_G) B.pre
  have hG : ∀ w ∈ lw_G, w.before _ s = true := fun w h => hts0 w (List.mem_cons_of_mem _ h)
  have hown : s.vm.findClass RX12 = some m.cls := findClass_of_methodNamed B.named
  have hlocks := B.notSynchronized
  subst hsz
  have hD := hD0.self (sz := s.heap.size)
  generalize hAe : va_A [(h0, .inr (12, .int x1 :: .ref h1 :: .ref h2 :: .int x2 :: .int x3 :: .int x4 :: .int x5 :: .int x6 :: .int x7 :: .int x8 :: .int x9 :: .int x10 :: [.int x11, .int x12, .int x13, .int x14, .int x15, .int x16, .ref h3, .ref h4, .ref h5, .ref h6, .int x17, .int x18, .int x19, .int x20, .int x21, .int x22, .int x23, .int x24, .ref h7, .int x25, .int x26, .int x27, .int x28, .ref h8, .ref h9, .int x29, .int x30, .long z0, .int x31, .int x32, .ref h10, .ref h11, .ref h12, .ref h13, .ref h14, .int x33, .int x34, .int x35, .int x36, .int x37, .int x38, .int x39, .int x40, .int x41, .ref h15, .ref h16, .int x42, .int x43, .int x44, .int x45, .int x46, .int x47, .int x48, .int x49, .ref h17, .int x50, .int x51, .int x52, .int x53, .int x54])), (h3, .inl (y0, 3, .inl f0)), (h4, .inl (y1, 3, .inl f1)), (h1, .inl (y2, 65536, .inl f2))] s.heap.size = A at hD ⊢
  have hA : ∀ q : Nat, s.heap.size ≤ q → A q := fun q h => by rw [← hAe]; exact Or.inr h
  have hS : va_S A s.heap s.heap [] := va_S.rf
  have hP : va_P (dC, dI) vwCl [(h0, .inr (12, .int x1 :: .ref h1 :: .ref h2 :: .int x2 :: .int x3 :: .int x4 :: .int x5 :: .int x6 :: .int x7 :: .int x8 :: .int x9 :: .int x10 :: [.int x11, .int x12, .int x13, .int x14, .int x15, .int x16, .ref h3, .ref h4, .ref h5, .ref h6, .int x17, .int x18, .int x19, .int x20, .int x21, .int x22, .int x23, .int x24, .ref h7, .int x25, .int x26, .int x27, .int x28, .ref h8, .ref h9, .int x29, .int x30, .long z0, .int x31, .int x32, .ref h10, .ref h11, .ref h12, .ref h13, .ref h14, .int x33, .int x34, .int x35, .int x36, .int x37, .int x38, .int x39, .int x40, .int x41, .ref h15, .ref h16, .int x42, .int x43, .int x44, .int x45, .int x46, .int x47, .int x48, .int x49, .ref h17, .int x50, .int x51, .int x52, .int x53, .int x54])), (h3, .inl (y0, 3, .inl f0)), (h4, .inl (y1, 3, .inl f1)), (h1, .inl (y2, 65536, .inl f2))] s.heap := hP
  have hl := lv_entry ([.ref h0, .int x0]) (n := 3) (Nat.le_of_ble_eq_true rfl)
  rw [lg_entry_eq]
  generalize (lg_sl ([.ref h0, .int x0]) ++ List.replicate (3 - (lg_sl ([.ref h0, .int x0])).length) Slot.unset).toArray = ls at hl ⊢
  have hl : lv_has ls 3 [(0, .ref h0), (1, .int x0)] := hl
  generalize ([.ref h0, .int x0] : List Value).toArray = ar at hG ⊢
  refine wq (fun Q hQ => ?_)
  refine lv_iload_n hx hb dX12_peekWord_0 rfl (lv_at hl 1 rfl) ?_
  refine lv_ldc hx hb hown (hG _ wd_1528) dX12_peekWord_1 ?_
  refine lv_iand hx hb dX12_peekWord_3 ?_
  refine lv_topi (fun v1 ev1 => ?_)
  have iv1 : iv v1 0 65534 := iv_eq ev1 (iv_and (x := x0) (iv_w (by decide : iv 65534 65534 65534) (by decide) (by decide) : iv 65534 0 65534))
  refine lv_istore_n (lv' := [(2, .int v1), (0, .ref h0), (1, .int x0)]) hx hb dX12_peekWord_4 rfl hl (by decide) rfl (fun ls hl => ?_)
  refine lv_aload_n hx hb dX12_peekWord_5 rfl (lv_at hl 1 rfl) ?_
  refine lv_iload_n hx hb dX12_peekWord_6 rfl (lv_at hl 0 rfl) ?_
  obtain ⟨hPc, hDc, hFc⟩ := nv_sub3 (wc := [(h0, .inr (12, .int x1 :: .ref h1 :: .ref h2 :: .int x2 :: .int x3 :: .int x4 :: .int x5 :: .int x6 :: .int x7 :: .int x8 :: .int x9 :: .int x10 :: [.int x11, .int x12, .int x13, .int x14, .int x15, .int x16, .ref h3, .ref h4, .ref h5, .ref h6, .int x17, .int x18, .int x19, .int x20, .int x21, .int x22, .int x23, .int x24, .ref h7, .int x25, .int x26, .int x27, .int x28, .ref h8, .ref h9, .int x29, .int x30, .long z0, .int x31, .int x32, .ref h10, .ref h11, .ref h12, .ref h13, .ref h14, .int x33, .int x34, .int x35, .int x36, .int x37, .int x38, .int x39, .int x40, .int x41, .ref h15, .ref h16, .int x42, .int x43, .int x44, .int x45, .int x46, .int x47, .int x48, .int x49, .ref h17, .int x50, .int x51, .int x52, .int x53, .int x54])), (h3, .inl (y0, 3, .inl f0)), (h4, .inl (y1, 3, .inl f1)), (h1, .inl (y2, 65536, .inl f2))]) hP hD hS hA [0, 1, 2, 3] (by decide) rfl
  have hKc := hK.sub (tys' := [(y0, .int), (y1, .int), (y2, .byte)]) [0, 1, 2] rfl
  refine va_calli (va_runV (As := [.int v1]) (rest := []) ⟨hx, hb, hml, hown, hG⟩ (cX12_peekByte_1 l dC dI h0 h1 h2 h3 h4 h5 h6 h7 h8 h9 h10 h11 h12 h13 h14 h15 h16 h17 y0 y1 y2 s.heap.size v1 x1 x2 x3 x4 x5 x6 x7 x8 x9 x10 x11 x12 x13 x14 x15 x16 x17 x18 x19 x20 x21 x22 x23 x24 x25 x26 x27 x28 x29 x30 x31 x32 x33 x34 x35 x36 x37 x38 x39 x40 x41 x42 x43 x44 x45 x46 x47 x48 x49 x50 x51 x52 x53 x54 z0 f0 f1 f2 (iv_w iv1 (by decide) (by decide)) ix16 ix17 ix22 ix23 ix24 ix25 ix26 ix27 ix28 ix32 ix33 ix34 ix35 ix36 ix37 ix42 ix43 ix47 ix48 ix50 ix54 if2) (cwV 1 hG (gV wd_1533 wd_1535 wp_66 wd_17 wd_1536) rfl rfl rfl (by decide +kernel) ⟨Nat.le_of_ble_eq_true rfl, Nat.le_of_ble_eq_true rfl⟩) ⟨fun a U g mk q => by obtain ⟨q0, q1, qP, qK, qD⟩ := q; exact ⟨q0, q1, qP, va_K.moved (u := U) (U := U.calling g mk a) (Vm.Alike.refl U.vm) qK, qD⟩, va_recv hKc hPc (ci := 12) (q0 := 0) rfl rfl, fun U hU hW => ⟨rfl, by rw [hU], by rw [hU]; exact hPc, va_K.moved hW.alike hKc, hDc.weaken (fun _ _ _ _ => trivial)⟩⟩ rfl rfl hl.1 rfl (lv_room (Nat.le_of_ble_eq_true rfl)) dX12_peekWord_7 ⟨by decide, by decide⟩) hS (fun q _ h => hFc q h) hFc (fun r2 u3 t H1 locs ht hvm hw hB hz1 hk1 hS => ?_)
  obtain ⟨hP1, hK1, hD1⟩ := hB
  rw [ht] at hP1
  have hK1 := va_K.moved hvm.symm hK1
  obtain ⟨hP, hD⟩ := nv_join (wf := [(h0, .inr (12, .int x1 :: .ref h1 :: .ref h2 :: .int x2 :: .int x3 :: .int x4 :: .int x5 :: .int x6 :: .int x7 :: .int x8 :: .int x9 :: .int x10 :: [.int x11, .int x12, .int x13, .int x14, .int x15, .int x16, .ref h3, .ref h4, .ref h5, .ref h6, .int x17, .int x18, .int x19, .int x20, .int x21, .int x22, .int x23, .int x24, .ref h7, .int x25, .int x26, .int x27, .int x28, .ref h8, .ref h9, .int x29, .int x30, .long z0, .int x31, .int x32, .ref h10, .ref h11, .ref h12, .ref h13, .ref h14, .int x33, .int x34, .int x35, .int x36, .int x37, .int x38, .int x39, .int x40, .int x41, .ref h15, .ref h16, .int x42, .int x43, .int x44, .int x45, .int x46, .int x47, .int x48, .int x49, .ref h17, .int x50, .int x51, .int x52, .int x53, .int x54])), (h3, .inl (y0, 3, .inl f0)), (h4, .inl (y1, 3, .inl f1)), (h1, .inl (y2, 65536, .inl f2))]) hP hD [0, 1, 2, 3] [] rfl rfl (by decide) (by decide) hk1 hFc hP1 hD1 rfl
  have hK := (hK.sub (tys' := []) [] rfl).app hK1
  generalize H1 = H at hP hS ⊢
  have hK : va_K (dC, dI) vwCl [(y0, .int), (y1, .int), (y2, .byte)] s := hK
  clear hKc hPc hDc hFc hP1 hD1 hK1 hk1 hz1 hw
  refine lv_aload_n hx hb dX12_peekWord_10 rfl (lv_at hl 1 rfl) ?_
  refine lv_iload_n hx hb dX12_peekWord_11 rfl (lv_at hl 0 rfl) ?_
  refine lv_iconst (v := 1) hx hb dX12_peekWord_12 (by decide) ?_
  refine lv_iadd hx hb dX12_peekWord_13 ?_
  refine lv_topi (fun v4 ev4 => ?_)
  have iv4 : iv v4 1 65535 := iv_eq ev4 (iv_add iv1 (by decide : iv 1 1 1) (by decide) (by decide))
  have tv4 : v4.toInt = v1.toInt + 1 := iv_addT ev4 iv1 (by decide) (by decide) (by decide)
  obtain ⟨hPc, hDc, hFc⟩ := nv_sub3 (wc := [(h0, .inr (12, .int x1 :: .ref h1 :: .ref h2 :: .int x2 :: .int x3 :: .int x4 :: .int x5 :: .int x6 :: .int x7 :: .int x8 :: .int x9 :: .int x10 :: [.int x11, .int x12, .int x13, .int x14, .int x15, .int x16, .ref h3, .ref h4, .ref h5, .ref h6, .int x17, .int x18, .int x19, .int x20, .int x21, .int x22, .int x23, .int x24, .ref h7, .int x25, .int x26, .int x27, .int x28, .ref h8, .ref h9, .int x29, .int x30, .long z0, .int x31, .int x32, .ref h10, .ref h11, .ref h12, .ref h13, .ref h14, .int x33, .int x34, .int x35, .int x36, .int x37, .int x38, .int x39, .int x40, .int x41, .ref h15, .ref h16, .int x42, .int x43, .int x44, .int x45, .int x46, .int x47, .int x48, .int x49, .ref h17, .int x50, .int x51, .int x52, .int x53, .int x54])), (h3, .inl (y0, 3, .inl f0)), (h4, .inl (y1, 3, .inl f1)), (h1, .inl (y2, 65536, .inl f2))]) hP hD hS hA [0, 1, 2, 3] (by decide) rfl
  have hKc := hK.sub (tys' := [(y0, .int), (y1, .int), (y2, .byte)]) [0, 1, 2] rfl
  refine va_calli (va_runV (As := [.int v4]) (rest := [.int r2]) ⟨hx, hb, hml, hown, hG⟩ (cX12_peekByte_1 l dC dI h0 h1 h2 h3 h4 h5 h6 h7 h8 h9 h10 h11 h12 h13 h14 h15 h16 h17 y0 y1 y2 H.size v4 x1 x2 x3 x4 x5 x6 x7 x8 x9 x10 x11 x12 x13 x14 x15 x16 x17 x18 x19 x20 x21 x22 x23 x24 x25 x26 x27 x28 x29 x30 x31 x32 x33 x34 x35 x36 x37 x38 x39 x40 x41 x42 x43 x44 x45 x46 x47 x48 x49 x50 x51 x52 x53 x54 z0 f0 f1 f2 (iv_w iv4 (by decide) (by decide)) ix16 ix17 ix22 ix23 ix24 ix25 ix26 ix27 ix28 ix32 ix33 ix34 ix35 ix36 ix37 ix42 ix43 ix47 ix48 ix50 ix54 if2) (cwV 1 hG (gV wd_1533 wd_1535 wp_66 wd_17 wd_1536) rfl rfl rfl (by decide +kernel) ⟨Nat.le_of_ble_eq_true rfl, Nat.le_of_ble_eq_true rfl⟩) ⟨fun a U g mk q => by obtain ⟨q0, q1, qP, qK, qD⟩ := q; exact ⟨q0, q1, qP, va_K.moved (u := U) (U := U.calling g mk a) (Vm.Alike.refl U.vm) qK, qD⟩, va_recv hKc hPc (ci := 12) (q0 := 0) rfl rfl, fun U hU hW => ⟨rfl, by rw [hU], by rw [hU]; exact hPc, va_K.moved hW.alike hKc, hDc.weaken (fun _ _ _ _ => trivial)⟩⟩ rfl rfl hl.1 rfl (lv_room (Nat.le_of_ble_eq_true rfl)) dX12_peekWord_14 ⟨by decide, by decide⟩) hS (fun q _ h => hFc q h) hFc (fun r5 u6 t H1 locs ht hvm hw hB hz1 hk1 hS => ?_)
  obtain ⟨hP1, hK1, hD1⟩ := hB
  rw [ht] at hP1
  have hK1 := va_K.moved hvm.symm hK1
  obtain ⟨hP, hD⟩ := nv_join (wf := [(h0, .inr (12, .int x1 :: .ref h1 :: .ref h2 :: .int x2 :: .int x3 :: .int x4 :: .int x5 :: .int x6 :: .int x7 :: .int x8 :: .int x9 :: .int x10 :: [.int x11, .int x12, .int x13, .int x14, .int x15, .int x16, .ref h3, .ref h4, .ref h5, .ref h6, .int x17, .int x18, .int x19, .int x20, .int x21, .int x22, .int x23, .int x24, .ref h7, .int x25, .int x26, .int x27, .int x28, .ref h8, .ref h9, .int x29, .int x30, .long z0, .int x31, .int x32, .ref h10, .ref h11, .ref h12, .ref h13, .ref h14, .int x33, .int x34, .int x35, .int x36, .int x37, .int x38, .int x39, .int x40, .int x41, .ref h15, .ref h16, .int x42, .int x43, .int x44, .int x45, .int x46, .int x47, .int x48, .int x49, .ref h17, .int x50, .int x51, .int x52, .int x53, .int x54])), (h3, .inl (y0, 3, .inl f0)), (h4, .inl (y1, 3, .inl f1)), (h1, .inl (y2, 65536, .inl f2))]) hP hD [0, 1, 2, 3] [] rfl rfl (by decide) (by decide) hk1 hFc hP1 hD1 rfl
  have hK := (hK.sub (tys' := []) [] rfl).app hK1
  generalize H1 = H at hP hS ⊢
  have hK : va_K (dC, dI) vwCl [(y0, .int), (y1, .int), (y2, .byte)] s := hK
  clear hKc hPc hDc hFc hP1 hD1 hK1 hk1 hz1 hw
  refine lv_bipush (v := 8) hx hb dX12_peekWord_17 (by decide) ?_
  refine lv_ishl hx hb dX12_peekWord_19 ?_
  refine lv_topi (fun v7 ev7 => ?_)
  refine lv_ior hx hb dX12_peekWord_20 ?_
  refine lv_topi (fun v8 ev8 => ?_)
  rw [hQ]
  obtain ⟨hP9, hD9⟩ := nv_sub2 (wc := [(h0, .inr (12, .int x1 :: .ref h1 :: .ref h2 :: .int x2 :: .int x3 :: .int x4 :: .int x5 :: .int x6 :: .int x7 :: .int x8 :: .int x9 :: .int x10 :: [.int x11, .int x12, .int x13, .int x14, .int x15, .int x16, .ref h3, .ref h4, .ref h5, .ref h6, .int x17, .int x18, .int x19, .int x20, .int x21, .int x22, .int x23, .int x24, .ref h7, .int x25, .int x26, .int x27, .int x28, .ref h8, .ref h9, .int x29, .int x30, .long z0, .int x31, .int x32, .ref h10, .ref h11, .ref h12, .ref h13, .ref h14, .int x33, .int x34, .int x35, .int x36, .int x37, .int x38, .int x39, .int x40, .int x41, .ref h15, .ref h16, .int x42, .int x43, .int x44, .int x45, .int x46, .int x47, .int x48, .int x49, .ref h17, .int x50, .int x51, .int x52, .int x53, .int x54])), (h3, .inl (y0, 3, .inl f0)), (h4, .inl (y1, 3, .inl f1)), (h1, .inl (y2, 65536, .inl f2))]) hP hD [0, 1, 2, 3] (by decide) rfl
  have hK9 := hK.sub (tys' := [(y0, .int), (y1, .int), (y2, .byte)]) [0, 1, 2] rfl
  exact W.iret (v := v8) hx hb hr (fun t ht hW => ⟨⟨v8, (), rfl, trivial, by rw [ht]; exact hP9, va_K.moved hW.alike hK9, hD9⟩, hS.F ht⟩) hS.2.2 dX12_peekWord_21
set_option maxHeartbeats 100000000 in
set_option maxRecDepth 100000 in
theorem cX12_write_1 (l : Launch) (dC : Nat → ClassId) (dI : Nat → Nat → Nat) (h0 h1 h2 h3 h4 h5 h6 h7 h8 h9 h10 h11 h12 h13 h14 h15 h16 h17 : Nat) (y0 : ClassId) (sz : Nat) (x0 x1 x2 x3 x4 x5 x6 x7 x8 x9 x10 x11 x12 x13 x14 x15 x16 x17 x18 x19 x20 x21 x22 x23 x24 x25 x26 x27 x28 x29 x30 x31 x32 x33 x34 x35 x36 x37 x38 x39 x40 x41 x42 x43 x44 x45 x46 x47 x48 x49 x50 x51 x52 x53 x54 x55 : Int32) (z0 : Int64) (f0 : Nat → Int32) (ix0 : iv x0 0 15) (ix17 : iv x17 0 1) (ix18 : iv x18 0 40) (ix23 : iv x23 0 65535) (ix24 : iv x24 0 1) (ix25 : iv x25 0 1) (ix26 : iv x26 0 2600) (ix27 : iv x27 0 2600) (ix28 : iv x28 0 2500) (ix29 : iv x29 0 2500) (ix33 : iv x33 0 1048575) (ix34 : iv x34 0 60) (ix35 : iv x35 0 60) (ix36 : iv x36 0 1) (ix37 : iv x37 0 1) (ix38 : iv x38 0 65535) (ix43 : iv x43 0 5200) (ix44 : iv x44 0 70800) (ix48 : iv x48 0 1) (ix49 : iv x49 0 1) (ix51 : iv x51 0 100) (ix55 : iv x55 0 1) (if0 : ∀ j, iv (f0 j) 0 65535) : Met l yX12_write (Cond.code yX12_write cX12_write 3 none :: lw_G) ({ frames := 0, cells := 0, slots := 0, locals := 0 }) (va_Pc [.ref h0, .int x0, .int x1] (fun U => U.heap.size = sz ∧ va_P (dC, dI) vwCl [(h0, .inr (12, .int x2 :: .ref h1 :: .ref h2 :: .int x3 :: .int x4 :: .int x5 :: .int x6 :: .int x7 :: .int x8 :: .int x9 :: .int x10 :: .int x11 :: [.int x12, .int x13, .int x14, .int x15, .int x16, .int x17, .ref h3, .ref h4, .ref h5, .ref h6, .int x18, .int x19, .int x20, .int x21, .int x22, .int x23, .int x24, .int x25, .ref h7, .int x26, .int x27, .int x28, .int x29, .ref h8, .ref h9, .int x30, .int x31, .long z0, .int x32, .int x33, .ref h10, .ref h11, .ref h12, .ref h13, .ref h14, .int x34, .int x35, .int x36, .int x37, .int x38, .int x39, .int x40, .int x41, .int x42, .ref h15, .ref h16, .int x43, .int x44, .int x45, .int x46, .int x47, .int x48, .int x49, .int x50, .ref h17, .int x51, .int x52, .int x53, .int x54, .int x55])), (h2, .inl (y0, 16, .inl f0))] U.heap ∧ va_K (dC, dI) vwCl [(y0, .int)] U ∧ va_D (fun _ => True) [(h0, .inr (12, .int x2 :: .ref h1 :: .ref h2 :: .int x3 :: .int x4 :: .int x5 :: .int x6 :: .int x7 :: .int x8 :: .int x9 :: .int x10 :: .int x11 :: [.int x12, .int x13, .int x14, .int x15, .int x16, .int x17, .ref h3, .ref h4, .ref h5, .ref h6, .int x18, .int x19, .int x20, .int x21, .int x22, .int x23, .int x24, .int x25, .ref h7, .int x26, .int x27, .int x28, .int x29, .ref h8, .ref h9, .int x30, .int x31, .long z0, .int x32, .int x33, .ref h10, .ref h11, .ref h12, .ref h13, .ref h14, .int x34, .int x35, .int x36, .int x37, .int x38, .int x39, .int x40, .int x41, .int x42, .ref h15, .ref h16, .int x43, .int x44, .int x45, .int x46, .int x47, .int x48, .int x49, .int x50, .ref h17, .int x51, .int x52, .int x53, .int x54, .int x55])), (h2, .inl (y0, 16, .inl f0))])) (va_Qv (fun (u : (Nat → Int32)) => (∀ j, iv (u j) 0 65535) ∧ True) (fun (u : (Nat → Int32)) (t : State) => va_P (dC, dI) vwCl [(h0, .inr (12, .int x2 :: .ref h1 :: .ref h2 :: .int x3 :: .int x4 :: .int x5 :: .int x6 :: .int x7 :: .int x8 :: .int x9 :: .int x10 :: .int x11 :: [.int x12, .int x13, .int x14, .int x15, .int x16, .int x17, .ref h3, .ref h4, .ref h5, .ref h6, .int x18, .int x19, .int x20, .int x21, .int x22, .int x23, .int x24, .int x25, .ref h7, .int x26, .int x27, .int x28, .int x29, .ref h8, .ref h9, .int x30, .int x31, .long z0, .int x32, .int x33, .ref h10, .ref h11, .ref h12, .ref h13, .ref h14, .int x34, .int x35, .int x36, .int x37, .int x38, .int x39, .int x40, .int x41, .int x42, .ref h15, .ref h16, .int x43, .int x44, .int x45, .int x46, .int x47, .int x48, .int x49, .int x50, .ref h17, .int x51, .int x52, .int x53, .int x54, .int x55])), (h2, .inl (y0, 16, .inl u))] t.heap ∧ va_K (dC, dI) vwCl [(y0, .int)] t ∧ va_D (va_A [(h0, .inr (12, .int x2 :: .ref h1 :: .ref h2 :: .int x3 :: .int x4 :: .int x5 :: .int x6 :: .int x7 :: .int x8 :: .int x9 :: .int x10 :: .int x11 :: [.int x12, .int x13, .int x14, .int x15, .int x16, .int x17, .ref h3, .ref h4, .ref h5, .ref h6, .int x18, .int x19, .int x20, .int x21, .int x22, .int x23, .int x24, .int x25, .ref h7, .int x26, .int x27, .int x28, .int x29, .ref h8, .ref h9, .int x30, .int x31, .long z0, .int x32, .int x33, .ref h10, .ref h11, .ref h12, .ref h13, .ref h14, .int x34, .int x35, .int x36, .int x37, .int x38, .int x39, .int x40, .int x41, .int x42, .ref h15, .ref h16, .int x43, .int x44, .int x45, .int x46, .int x47, .int x48, .int x49, .int x50, .ref h17, .int x51, .int x52, .int x53, .int x54, .int x55])), (h2, .inl (y0, 16, .inl f0))] sz) [(h0, .inr (12, .int x2 :: .ref h1 :: .ref h2 :: .int x3 :: .int x4 :: .int x5 :: .int x6 :: .int x7 :: .int x8 :: .int x9 :: .int x10 :: .int x11 :: [.int x12, .int x13, .int x14, .int x15, .int x16, .int x17, .ref h3, .ref h4, .ref h5, .ref h6, .int x18, .int x19, .int x20, .int x21, .int x22, .int x23, .int x24, .int x25, .ref h7, .int x26, .int x27, .int x28, .int x29, .ref h8, .ref h9, .int x30, .int x31, .long z0, .int x32, .int x33, .ref h10, .ref h11, .ref h12, .ref h13, .ref h14, .int x34, .int x35, .int x36, .int x37, .int x38, .int x39, .int x40, .int x41, .int x42, .ref h15, .ref h16, .int x43, .int x44, .int x45, .int x46, .int x47, .int x48, .int x49, .int x50, .ref h17, .int x51, .int x52, .int x53, .int x54, .int x55])), (h2, .inl (y0, 16, .inl u))]) (va_A [(h0, .inr (12, .int x2 :: .ref h1 :: .ref h2 :: .int x3 :: .int x4 :: .int x5 :: .int x6 :: .int x7 :: .int x8 :: .int x9 :: .int x10 :: .int x11 :: [.int x12, .int x13, .int x14, .int x15, .int x16, .int x17, .ref h3, .ref h4, .ref h5, .ref h6, .int x18, .int x19, .int x20, .int x21, .int x22, .int x23, .int x24, .int x25, .ref h7, .int x26, .int x27, .int x28, .int x29, .ref h8, .ref h9, .int x30, .int x31, .long z0, .int x32, .int x33, .ref h10, .ref h11, .ref h12, .ref h13, .ref h14, .int x34, .int x35, .int x36, .int x37, .int x38, .int x39, .int x40, .int x41, .int x42, .ref h15, .ref h16, .int x43, .int x44, .int x45, .int x46, .int x47, .int x48, .int x49, .int x50, .ref h17, .int x51, .int x52, .int x53, .int x54, .int x55])), (h2, .inl (y0, 16, .inl f0))] sz)) 0 0 (va_A [(h0, .inr (12, .int x2 :: .ref h1 :: .ref h2 :: .int x3 :: .int x4 :: .int x5 :: .int x6 :: .int x7 :: .int x8 :: .int x9 :: .int x10 :: .int x11 :: [.int x12, .int x13, .int x14, .int x15, .int x16, .int x17, .ref h3, .ref h4, .ref h5, .ref h6, .int x18, .int x19, .int x20, .int x21, .int x22, .int x23, .int x24, .int x25, .ref h7, .int x26, .int x27, .int x28, .int x29, .ref h8, .ref h9, .int x30, .int x31, .long z0, .int x32, .int x33, .ref h10, .ref h11, .ref h12, .ref h13, .ref h14, .int x34, .int x35, .int x36, .int x37, .int x38, .int x39, .int x40, .int x41, .int x42, .ref h15, .ref h16, .int x43, .int x44, .int x45, .int x46, .int x47, .int x48, .int x49, .int x50, .ref h17, .int x51, .int x52, .int x53, .int x54, .int x55])), (h2, .inl (y0, 16, .inl f0))] sz) := by
  refine Met.ofW (cc := cX12_write) (maxL := 3) (ret := none) (by decide) rfl ?_
  intro p e s m args below meth c s₁ B hml hv
  obtain ⟨rfl, hsz, hP, hK, hD0⟩ := hv
  have hx := B.exec
  have hb := B.bytes
  have hr := B.returns
  have hts0 := atoms_spec (ws := Cond.code yX12_write cX12_write 3 none :: lw_G) B.pre
  have hG : ∀ w ∈ lw_G, w.before _ s = true := fun w h => hts0 w (List.mem_cons_of_mem _ h)
  have hown : s.vm.findClass RX12 = some m.cls := findClass_of_methodNamed B.named
  have hlocks := B.notSynchronized
  subst hsz
  have hD := hD0.self (sz := s.heap.size)
  generalize hAe : va_A [(h0, .inr (12, .int x2 :: .ref h1 :: .ref h2 :: .int x3 :: .int x4 :: .int x5 :: .int x6 :: .int x7 :: .int x8 :: .int x9 :: .int x10 :: .int x11 :: [.int x12, .int x13, .int x14, .int x15, .int x16, .int x17, .ref h3, .ref h4, .ref h5, .ref h6, .int x18, .int x19, .int x20, .int x21, .int x22, .int x23, .int x24, .int x25, .ref h7, .int x26, .int x27, .int x28, .int x29, .ref h8, .ref h9, .int x30, .int x31, .long z0, .int x32, .int x33, .ref h10, .ref h11, .ref h12, .ref h13, .ref h14, .int x34, .int x35, .int x36, .int x37, .int x38, .int x39, .int x40, .int x41, .int x42, .ref h15, .ref h16, .int x43, .int x44, .int x45, .int x46, .int x47, .int x48, .int x49, .int x50, .ref h17, .int x51, .int x52, .int x53, .int x54, .int x55])), (h2, .inl (y0, 16, .inl f0))] s.heap.size = A at hD ⊢
  have hA : ∀ q : Nat, s.heap.size ≤ q → A q := fun q h => by rw [← hAe]; exact Or.inr h
  have hS : va_S A s.heap s.heap [] := va_S.rf
  have hP : va_P (dC, dI) vwCl [(h0, .inr (12, .int x2 :: .ref h1 :: .ref h2 :: .int x3 :: .int x4 :: .int x5 :: .int x6 :: .int x7 :: .int x8 :: .int x9 :: .int x10 :: .int x11 :: [.int x12, .int x13, .int x14, .int x15, .int x16, .int x17, .ref h3, .ref h4, .ref h5, .ref h6, .int x18, .int x19, .int x20, .int x21, .int x22, .int x23, .int x24, .int x25, .ref h7, .int x26, .int x27, .int x28, .int x29, .ref h8, .ref h9, .int x30, .int x31, .long z0, .int x32, .int x33, .ref h10, .ref h11, .ref h12, .ref h13, .ref h14, .int x34, .int x35, .int x36, .int x37, .int x38, .int x39, .int x40, .int x41, .int x42, .ref h15, .ref h16, .int x43, .int x44, .int x45, .int x46, .int x47, .int x48, .int x49, .int x50, .ref h17, .int x51, .int x52, .int x53, .int x54, .int x55])), (h2, .inl (y0, 16, .inl f0))] s.heap := hP
  have hl := lv_entry ([.ref h0, .int x0, .int x1]) (n := 3) (Nat.le_of_ble_eq_true rfl)
  rw [lg_entry_eq]
  generalize (lg_sl ([.ref h0, .int x0, .int x1]) ++ List.replicate (3 - (lg_sl ([.ref h0, .int x0, .int x1])).length) Slot.unset).toArray = ls at hl ⊢
  have hl : lv_has ls 3 [(0, .ref h0), (1, .int x0), (2, .int x1)] := hl
  generalize ([.ref h0, .int x0, .int x1] : List Value).toArray = ar at hG ⊢
  refine wq (fun Q hQ => ?_)
  refine lv_iload_n hx hb dX12_write_0 rfl (lv_at hl 1 rfl) ?_
  refine lv_iconst (v := 3) hx hb dX12_write_1 (by decide) ?_
  refine lv_icmp_ne (tgt := 6) hx hb dX12_write_2 (by decide) (fun c1 => ?_) (fun c1 => ?_)
  · skip
    refine lv_aload_n hx hb dX12_write_6 rfl (lv_at hl 0 rfl) ?_
    refine va_get (D := (dC, dI)) (ci := 12) (v := .ref h2) (C := RX12) (T := TX12) (N := 72) hx hb hG inGX12 hown hK hP 0 rfl rfl 2 (by decide) (hG _ wd_1309) (fun _ h9 => h9) rfl dX12_write_7 ?_
    refine lv_iload_n hx hb dX12_write_10 rfl (lv_at hl 1 rfl) ?_
    refine lv_iload_n hx hb dX12_write_11 rfl (lv_at hl 1 rfl) ?_
    refine lv_iconst (v := 2) hx hb dX12_write_12 (by decide) ?_
    refine jcut (a := ∀ (b11 : Int32) (ib11 : iv b11 0 65535) (H : Heap) (locs : List Loc) (hK : va_K (dC, dI) vwCl [(y0, .int)] s) (hP : va_P (dC, dI) vwCl [(h0, .inr (12, .int x2 :: .ref h1 :: .ref h2 :: .int x3 :: .int x4 :: .int x5 :: .int x6 :: .int x7 :: .int x8 :: .int x9 :: .int x10 :: .int x11 :: [.int x12, .int x13, .int x14, .int x15, .int x16, .int x17, .ref h3, .ref h4, .ref h5, .ref h6, .int x18, .int x19, .int x20, .int x21, .int x22, .int x23, .int x24, .int x25, .ref h7, .int x26, .int x27, .int x28, .int x29, .ref h8, .ref h9, .int x30, .int x31, .long z0, .int x32, .int x33, .ref h10, .ref h11, .ref h12, .ref h13, .ref h14, .int x34, .int x35, .int x36, .int x37, .int x38, .int x39, .int x40, .int x41, .int x42, .ref h15, .ref h16, .int x43, .int x44, .int x45, .int x46, .int x47, .int x48, .int x49, .int x50, .ref h17, .int x51, .int x52, .int x53, .int x54, .int x55])), (h2, .inl (y0, 16, .inl f0))] H) (hD : va_D A [(h0, .inr (12, .int x2 :: .ref h1 :: .ref h2 :: .int x3 :: .int x4 :: .int x5 :: .int x6 :: .int x7 :: .int x8 :: .int x9 :: .int x10 :: .int x11 :: [.int x12, .int x13, .int x14, .int x15, .int x16, .int x17, .ref h3, .ref h4, .ref h5, .ref h6, .int x18, .int x19, .int x20, .int x21, .int x22, .int x23, .int x24, .int x25, .ref h7, .int x26, .int x27, .int x28, .int x29, .ref h8, .ref h9, .int x30, .int x31, .long z0, .int x32, .int x33, .ref h10, .ref h11, .ref h12, .ref h13, .ref h14, .int x34, .int x35, .int x36, .int x37, .int x38, .int x39, .int x40, .int x41, .int x42, .ref h15, .ref h16, .int x43, .int x44, .int x45, .int x46, .int x47, .int x48, .int x49, .int x50, .ref h17, .int x51, .int x52, .int x53, .int x54, .int x55])), (h2, .inl (y0, 16, .inl f0))]) (hS : va_S A s.heap H locs) (ls : Array Slot) (hl : lv_has ls 3 []), W p l e (headSpec (Cond.code yX12_write cX12_write 3 none :: lw_G) ({ frames := 0, cells := 0, slots := 0, locals := 0 })).room s m ar below meth c H locs 0 0 Q (F0 m 40 ls [.int b11, .int x0, .ref h2])) ?_ (fun j12 => ?_)
    · skip
      intro b11 ib11 H locs hK hP hD hS ls hl
      refine va_iast hx hb hK hP hD hS 1 0 rfl rfl (iv_in ix0 (by decide) (by decide) : vp_in x0 16) dX12_write_40 (fun H locs hP hD hS => ?_)
      obtain ⟨nf13, enf13⟩ : ∃ z, z = upd f0 x0.toNatClampNeg b11 := ⟨_, rfl⟩
      obtain ⟨hP, hD⟩ := nv_eq (ws' := [(h0, .inr (12, .int x2 :: .ref h1 :: .ref h2 :: .int x3 :: .int x4 :: .int x5 :: .int x6 :: .int x7 :: .int x8 :: .int x9 :: .int x10 :: .int x11 :: [.int x12, .int x13, .int x14, .int x15, .int x16, .int x17, .ref h3, .ref h4, .ref h5, .ref h6, .int x18, .int x19, .int x20, .int x21, .int x22, .int x23, .int x24, .int x25, .ref h7, .int x26, .int x27, .int x28, .int x29, .ref h8, .ref h9, .int x30, .int x31, .long z0, .int x32, .int x33, .ref h10, .ref h11, .ref h12, .ref h13, .ref h14, .int x34, .int x35, .int x36, .int x37, .int x38, .int x39, .int x40, .int x41, .int x42, .ref h15, .ref h16, .int x43, .int x44, .int x45, .int x46, .int x47, .int x48, .int x49, .int x50, .ref h17, .int x51, .int x52, .int x53, .int x54, .int x55])), (h2, .inl (y0, 16, .inl nf13))]) hP hD (by subst enf13; rfl)
      have inf13 : ∀ j, iv (nf13 j) 0 65535 := by rw [enf13]; exact iv_upd if0 ib11 (by decide) (by decide) (by decide) (by decide)
      rw [hQ]
      obtain ⟨hP9, hD9⟩ := nv_sub2 (wc := [(h0, .inr (12, .int x2 :: .ref h1 :: .ref h2 :: .int x3 :: .int x4 :: .int x5 :: .int x6 :: .int x7 :: .int x8 :: .int x9 :: .int x10 :: .int x11 :: [.int x12, .int x13, .int x14, .int x15, .int x16, .int x17, .ref h3, .ref h4, .ref h5, .ref h6, .int x18, .int x19, .int x20, .int x21, .int x22, .int x23, .int x24, .int x25, .ref h7, .int x26, .int x27, .int x28, .int x29, .ref h8, .ref h9, .int x30, .int x31, .long z0, .int x32, .int x33, .ref h10, .ref h11, .ref h12, .ref h13, .ref h14, .int x34, .int x35, .int x36, .int x37, .int x38, .int x39, .int x40, .int x41, .int x42, .ref h15, .ref h16, .int x43, .int x44, .int x45, .int x46, .int x47, .int x48, .int x49, .int x50, .ref h17, .int x51, .int x52, .int x53, .int x54, .int x55])), (h2, .inl (y0, 16, .inl nf13))]) hP hD [0, 1] (by decide) rfl
      have hK9 := hK.sub (tys' := [(y0, .int)]) [0] rfl
      exact W.vret hx hb hr (fun t ht hW => ⟨⟨nf13, rfl, ⟨(fun j => iv_w (inf13 j) (by decide) (by decide)), trivial⟩, by rw [ht]; exact hP9, va_K.moved hW.alike hK9, hD9⟩, hS.F ht⟩) hS.2.2 dX12_write_41
    refine lv_icmp_ge (tgt := 23) hx hb dX12_write_13 (by decide) (fun c2 => ?_) (fun c2 => ?_)
    · skip
      have j14 : iv x0 2 15 := iv_leR (by decide : iv 2 2 2) ix0 c2 (by decide)
      refine lv_iload_n hx hb dX12_write_23 rfl (lv_at hl 1 rfl) ?_
      refine lv_iconst (v := 2) hx hb dX12_write_24 (by decide) ?_
      refine lv_icmp_ne (tgt := 36) hx hb dX12_write_25 (by decide) (fun c15 => ?_) (fun c15 => ?_)
      · skip
        have j16 : iv x0 3 15 := iv_neLo j14 (by decide : iv 2 2 2) c15 (by decide)
        refine lv_iload_n hx hb dX12_write_36 rfl (lv_at hl 2 rfl) ?_
        refine lv_ldc hx hb hown (hG _ wd_1553) dX12_write_37 ?_
        refine lv_iand hx hb dX12_write_39 ?_
        refine lv_topi (fun v17 ev17 => ?_)
        have iv17 : iv v17 0 65535 := iv_eq ev17 (iv_and (x := x1) (iv_w (by decide : iv 65535 65535 65535) (by decide) (by decide) : iv 65535 0 65535))
        exact j12 v17 iv17 _ _ hK hP hD hS ls (lv_sub hl [] rfl)
      · skip
        have j18 : iv x0 2 2 := iv_eqc c15 (by decide)
        refine lv_iload_n hx hb dX12_write_28 rfl (lv_at hl 2 rfl) ?_
        refine lv_sipush (v := 511) hx hb dX12_write_29 (by decide) ?_
        refine lv_iand hx hb dX12_write_32 ?_
        refine lv_topi (fun v19 ev19 => ?_)
        have iv19 : iv v19 0 511 := iv_eq ev19 (iv_and (x := x1) (iv_w (by decide : iv 511 511 511) (by decide) (by decide) : iv 511 0 511))
        refine lv_goto (tgt := 40) hx hb dX12_write_33 (by decide) ?_
        exact j12 v19 (iv_w iv19 (by decide) (by decide)) _ _ hK hP hD hS ls (lv_sub hl [] rfl)
    · skip
      have j20 : iv x0 0 1 := iv_nleR (by decide : iv 2 2 2) ix0 c2 (by decide)
      refine lv_iload_n hx hb dX12_write_16 rfl (lv_at hl 2 rfl) ?_
      refine lv_ldc hx hb hown (hG _ wd_1528) dX12_write_17 ?_
      refine lv_iand hx hb dX12_write_19 ?_
      refine lv_topi (fun v21 ev21 => ?_)
      have iv21 : iv v21 0 65534 := iv_eq ev21 (iv_and (x := x1) (iv_w (by decide : iv 65534 65534 65534) (by decide) (by decide) : iv 65534 0 65534))
      refine lv_goto (tgt := 40) hx hb dX12_write_20 (by decide) ?_
      exact j12 v21 (iv_w iv21 (by decide) (by decide)) _ _ hK hP hD hS ls (lv_sub hl [] rfl)
  · skip
    have j22 : iv x0 3 3 := iv_eqc c1 (by decide)
    rw [hQ]
    obtain ⟨hP9, hD9⟩ := nv_sub2 (wc := [(h0, .inr (12, .int x2 :: .ref h1 :: .ref h2 :: .int x3 :: .int x4 :: .int x5 :: .int x6 :: .int x7 :: .int x8 :: .int x9 :: .int x10 :: .int x11 :: [.int x12, .int x13, .int x14, .int x15, .int x16, .int x17, .ref h3, .ref h4, .ref h5, .ref h6, .int x18, .int x19, .int x20, .int x21, .int x22, .int x23, .int x24, .int x25, .ref h7, .int x26, .int x27, .int x28, .int x29, .ref h8, .ref h9, .int x30, .int x31, .long z0, .int x32, .int x33, .ref h10, .ref h11, .ref h12, .ref h13, .ref h14, .int x34, .int x35, .int x36, .int x37, .int x38, .int x39, .int x40, .int x41, .int x42, .ref h15, .ref h16, .int x43, .int x44, .int x45, .int x46, .int x47, .int x48, .int x49, .int x50, .ref h17, .int x51, .int x52, .int x53, .int x54, .int x55])), (h2, .inl (y0, 16, .inl f0))]) hP hD [0, 1] (by decide) rfl
    have hK9 := hK.sub (tys' := [(y0, .int)]) [0] rfl
    exact W.vret hx hb hr (fun t ht hW => ⟨⟨f0, rfl, ⟨(fun j => iv_w (if0 j) (by decide) (by decide)), trivial⟩, by rw [ht]; exact hP9, va_K.moved hW.alike hK9, hD9⟩, hS.F ht⟩) hS.2.2 dX12_write_5
set_option maxHeartbeats 100000000 in
set_option maxRecDepth 100000 in
theorem cX12_reset_1 (l : Launch) (dC : Nat → ClassId) (dI : Nat → Nat → Nat) (h0 h1 h2 h3 h4 h5 h6 h7 h8 h9 h10 h11 h12 h13 h14 h15 h16 h17 : Nat) (y0 y1 y2 y3 : ClassId) (sz : Nat) (x0 x1 x2 x3 x4 x5 x6 x7 x8 x9 x10 x11 x12 x13 x14 x15 x16 x17 x18 x19 x20 x21 x22 x23 x24 x25 x26 x27 x28 x29 x30 x31 x32 x33 x34 x35 x36 x37 x38 x39 x40 x41 x42 x43 x44 x45 x46 x47 x48 x49 x50 x51 x52 x53 : Int32) (z0 : Int64) (f0 f1 f2 f3 : Nat → Int32) (ix15 : iv x15 0 1) (ix16 : iv x16 0 40) (ix21 : iv x21 0 65535) (ix22 : iv x22 0 1) (ix23 : iv x23 0 1) (ix24 : iv x24 0 2600) (ix25 : iv x25 0 2600) (ix26 : iv x26 0 2500) (ix27 : iv x27 0 2500) (ix31 : iv x31 0 1048575) (ix32 : iv x32 0 60) (ix33 : iv x33 0 60) (ix34 : iv x34 0 1) (ix35 : iv x35 0 1) (ix36 : iv x36 0 65535) (ix41 : iv x41 0 5200) (ix42 : iv x42 0 70800) (ix46 : iv x46 0 1) (ix47 : iv x47 0 1) (ix49 : iv x49 0 100) (ix53 : iv x53 0 1) (if0 : ∀ j, iv (f0 j) 0 65535) (if3 : ∀ j, iv (f3 j) (-128) 127) : Met l yX12_reset (Cond.code yX12_reset cX12_reset 2 none :: lw_G) ({ frames := 4, cells := 0, slots := 0, locals := 84 }) (va_Pc [.ref h0] (fun U => U.heap.size = sz ∧ va_P (dC, dI) vwCl [(h0, .inr (12, .int x0 :: .ref h1 :: .ref h2 :: .int x1 :: .int x2 :: .int x3 :: .int x4 :: .int x5 :: .int x6 :: .int x7 :: .int x8 :: .int x9 :: [.int x10, .int x11, .int x12, .int x13, .int x14, .int x15, .ref h3, .ref h4, .ref h5, .ref h6, .int x16, .int x17, .int x18, .int x19, .int x20, .int x21, .int x22, .int x23, .ref h7, .int x24, .int x25, .int x26, .int x27, .ref h8, .ref h9, .int x28, .int x29, .long z0, .int x30, .int x31, .ref h10, .ref h11, .ref h12, .ref h13, .ref h14, .int x32, .int x33, .int x34, .int x35, .int x36, .int x37, .int x38, .int x39, .int x40, .ref h15, .ref h16, .int x41, .int x42, .int x43, .int x44, .int x45, .int x46, .int x47, .int x48, .ref h17, .int x49, .int x50, .int x51, .int x52, .int x53])), (h2, .inl (y0, 16, .inl f0)), (h3, .inl (y1, 3, .inl f1)), (h4, .inl (y2, 3, .inl f2)), (h1, .inl (y3, 65536, .inl f3))] U.heap ∧ va_K (dC, dI) vwCl [(y0, .int), (y1, .int), (y2, .int), (y3, .byte)] U ∧ va_D (fun _ => True) [(h0, .inr (12, .int x0 :: .ref h1 :: .ref h2 :: .int x1 :: .int x2 :: .int x3 :: .int x4 :: .int x5 :: .int x6 :: .int x7 :: .int x8 :: .int x9 :: [.int x10, .int x11, .int x12, .int x13, .int x14, .int x15, .ref h3, .ref h4, .ref h5, .ref h6, .int x16, .int x17, .int x18, .int x19, .int x20, .int x21, .int x22, .int x23, .ref h7, .int x24, .int x25, .int x26, .int x27, .ref h8, .ref h9, .int x28, .int x29, .long z0, .int x30, .int x31, .ref h10, .ref h11, .ref h12, .ref h13, .ref h14, .int x32, .int x33, .int x34, .int x35, .int x36, .int x37, .int x38, .int x39, .int x40, .ref h15, .ref h16, .int x41, .int x42, .int x43, .int x44, .int x45, .int x46, .int x47, .int x48, .ref h17, .int x49, .int x50, .int x51, .int x52, .int x53])), (h2, .inl (y0, 16, .inl f0)), (h3, .inl (y1, 3, .inl f1)), (h4, .inl (y2, 3, .inl f2)), (h1, .inl (y3, 65536, .inl f3))])) (va_Qv (fun (u : (Nat → Int32) × (Nat → Int32) × (Nat → Int32)) => (∀ j, iv (u.1 j) 0 65535) ∧ u.2.1 0 = 0 ∧ u.2.1 1 = 0 ∧ u.2.1 2 = 0 ∧ u.2.2 0 = 0 ∧ u.2.2 1 = 0 ∧ u.2.2 2 = 0 ∧ True) (fun (u : (Nat → Int32) × (Nat → Int32) × (Nat → Int32)) (t : State) => va_P (dC, dI) vwCl [(h0, .inr (12, .int 0 :: .ref h1 :: .ref h2 :: .int 0 :: .int 0 :: .int 0 :: .int 0 :: .int 0 :: .int 0 :: .int 0 :: .int 0 :: .int 0 :: [.int 0, .int 0, .int 0, .int 0, .int 0, .int 0, .ref h3, .ref h4, .ref h5, .ref h6, .int 0, .int 0, .int x18, .int 0, .int 0, .int x21, .int x22, .int x23, .ref h7, .int x24, .int x25, .int x26, .int x27, .ref h8, .ref h9, .int x28, .int x29, .long z0, .int x30, .int x31, .ref h10, .ref h11, .ref h12, .ref h13, .ref h14, .int x32, .int x33, .int x34, .int x35, .int x36, .int x37, .int x38, .int x39, .int x40, .ref h15, .ref h16, .int x41, .int x42, .int x43, .int x44, .int x45, .int x46, .int x47, .int x48, .ref h17, .int x49, .int x50, .int x51, .int x52, .int x53])), (h2, .inl (y0, 16, .inl u.1)), (h3, .inl (y1, 3, .inl u.2.1)), (h4, .inl (y2, 3, .inl u.2.2)), (h1, .inl (y3, 65536, .inl f3))] t.heap ∧ va_K (dC, dI) vwCl [(y0, .int), (y1, .int), (y2, .int), (y3, .byte)] t ∧ va_D (va_A [(h0, .inr (12, .int x0 :: .ref h1 :: .ref h2 :: .int x1 :: .int x2 :: .int x3 :: .int x4 :: .int x5 :: .int x6 :: .int x7 :: .int x8 :: .int x9 :: [.int x10, .int x11, .int x12, .int x13, .int x14, .int x15, .ref h3, .ref h4, .ref h5, .ref h6, .int x16, .int x17, .int x18, .int x19, .int x20, .int x21, .int x22, .int x23, .ref h7, .int x24, .int x25, .int x26, .int x27, .ref h8, .ref h9, .int x28, .int x29, .long z0, .int x30, .int x31, .ref h10, .ref h11, .ref h12, .ref h13, .ref h14, .int x32, .int x33, .int x34, .int x35, .int x36, .int x37, .int x38, .int x39, .int x40, .ref h15, .ref h16, .int x41, .int x42, .int x43, .int x44, .int x45, .int x46, .int x47, .int x48, .ref h17, .int x49, .int x50, .int x51, .int x52, .int x53])), (h2, .inl (y0, 16, .inl f0)), (h3, .inl (y1, 3, .inl f1)), (h4, .inl (y2, 3, .inl f2)), (h1, .inl (y3, 65536, .inl f3))] sz) [(h0, .inr (12, .int 0 :: .ref h1 :: .ref h2 :: .int 0 :: .int 0 :: .int 0 :: .int 0 :: .int 0 :: .int 0 :: .int 0 :: .int 0 :: .int 0 :: [.int 0, .int 0, .int 0, .int 0, .int 0, .int 0, .ref h3, .ref h4, .ref h5, .ref h6, .int 0, .int 0, .int x18, .int 0, .int 0, .int x21, .int x22, .int x23, .ref h7, .int x24, .int x25, .int x26, .int x27, .ref h8, .ref h9, .int x28, .int x29, .long z0, .int x30, .int x31, .ref h10, .ref h11, .ref h12, .ref h13, .ref h14, .int x32, .int x33, .int x34, .int x35, .int x36, .int x37, .int x38, .int x39, .int x40, .ref h15, .ref h16, .int x41, .int x42, .int x43, .int x44, .int x45, .int x46, .int x47, .int x48, .ref h17, .int x49, .int x50, .int x51, .int x52, .int x53])), (h2, .inl (y0, 16, .inl u.1)), (h3, .inl (y1, 3, .inl u.2.1)), (h4, .inl (y2, 3, .inl u.2.2)), (h1, .inl (y3, 65536, .inl f3))]) (va_A [(h0, .inr (12, .int x0 :: .ref h1 :: .ref h2 :: .int x1 :: .int x2 :: .int x3 :: .int x4 :: .int x5 :: .int x6 :: .int x7 :: .int x8 :: .int x9 :: [.int x10, .int x11, .int x12, .int x13, .int x14, .int x15, .ref h3, .ref h4, .ref h5, .ref h6, .int x16, .int x17, .int x18, .int x19, .int x20, .int x21, .int x22, .int x23, .ref h7, .int x24, .int x25, .int x26, .int x27, .ref h8, .ref h9, .int x28, .int x29, .long z0, .int x30, .int x31, .ref h10, .ref h11, .ref h12, .ref h13, .ref h14, .int x32, .int x33, .int x34, .int x35, .int x36, .int x37, .int x38, .int x39, .int x40, .ref h15, .ref h16, .int x41, .int x42, .int x43, .int x44, .int x45, .int x46, .int x47, .int x48, .ref h17, .int x49, .int x50, .int x51, .int x52, .int x53])), (h2, .inl (y0, 16, .inl f0)), (h3, .inl (y1, 3, .inl f1)), (h4, .inl (y2, 3, .inl f2)), (h1, .inl (y3, 65536, .inl f3))] sz)) 0 0 (va_A [(h0, .inr (12, .int x0 :: .ref h1 :: .ref h2 :: .int x1 :: .int x2 :: .int x3 :: .int x4 :: .int x5 :: .int x6 :: .int x7 :: .int x8 :: .int x9 :: [.int x10, .int x11, .int x12, .int x13, .int x14, .int x15, .ref h3, .ref h4, .ref h5, .ref h6, .int x16, .int x17, .int x18, .int x19, .int x20, .int x21, .int x22, .int x23, .ref h7, .int x24, .int x25, .int x26, .int x27, .ref h8, .ref h9, .int x28, .int x29, .long z0, .int x30, .int x31, .ref h10, .ref h11, .ref h12, .ref h13, .ref h14, .int x32, .int x33, .int x34, .int x35, .int x36, .int x37, .int x38, .int x39, .int x40, .ref h15, .ref h16, .int x41, .int x42, .int x43, .int x44, .int x45, .int x46, .int x47, .int x48, .ref h17, .int x49, .int x50, .int x51, .int x52, .int x53])), (h2, .inl (y0, 16, .inl f0)), (h3, .inl (y1, 3, .inl f1)), (h4, .inl (y2, 3, .inl f2)), (h1, .inl (y3, 65536, .inl f3))] sz) := by
  refine Met.ofW (cc := cX12_reset) (maxL := 2) (ret := none) (by decide) rfl ?_
  intro p e s m args below meth c s₁ B hml hv
  obtain ⟨rfl, hsz, hP, hK, hD0⟩ := hv
  have hx := B.exec
  have hb := B.bytes
  have hr := B.returns
  have hts0 := atoms_spec (ws := Cond.code yX12_reset cX12_reset 2 none :: lw_G) B.pre
  have hG : ∀ w ∈ lw_G, w.before _ s = true := fun w h => hts0 w (List.mem_cons_of_mem _ h)
  have hown : s.vm.findClass RX12 = some m.cls := findClass_of_methodNamed B.named
  have hlocks := B.notSynchronized
  subst hsz
  have hD := hD0.self (sz := s.heap.size)
  generalize hAe : va_A [(h0, .inr (12, .int x0 :: .ref h1 :: .ref h2 :: .int x1 :: .int x2 :: .int x3 :: .int x4 :: .int x5 :: .int x6 :: .int x7 :: .int x8 :: .int x9 :: [.int x10, .int x11, .int x12, .int x13, .int x14, .int x15, .ref h3, .ref h4, .ref h5, .ref h6, .int x16, .int x17, .int x18, .int x19, .int x20, .int x21, .int x22, .int x23, .ref h7, .int x24, .int x25, .int x26, .int x27, .ref h8, .ref h9, .int x28, .int x29, .long z0, .int x30, .int x31, .ref h10, .ref h11, .ref h12, .ref h13, .ref h14, .int x32, .int x33, .int x34, .int x35, .int x36, .int x37, .int x38, .int x39, .int x40, .ref h15, .ref h16, .int x41, .int x42, .int x43, .int x44, .int x45, .int x46, .int x47, .int x48, .ref h17, .int x49, .int x50, .int x51, .int x52, .int x53])), (h2, .inl (y0, 16, .inl f0)), (h3, .inl (y1, 3, .inl f1)), (h4, .inl (y2, 3, .inl f2)), (h1, .inl (y3, 65536, .inl f3))] s.heap.size = A at hD ⊢
  have hA : ∀ q : Nat, s.heap.size ≤ q → A q := fun q h => by rw [← hAe]; exact Or.inr h
  have hS : va_S A s.heap s.heap [] := va_S.rf
  have hP : va_P (dC, dI) vwCl [(h0, .inr (12, .int x0 :: .ref h1 :: .ref h2 :: .int x1 :: .int x2 :: .int x3 :: .int x4 :: .int x5 :: .int x6 :: .int x7 :: .int x8 :: .int x9 :: [.int x10, .int x11, .int x12, .int x13, .int x14, .int x15, .ref h3, .ref h4, .ref h5, .ref h6, .int x16, .int x17, .int x18, .int x19, .int x20, .int x21, .int x22, .int x23, .ref h7, .int x24, .int x25, .int x26, .int x27, .ref h8, .ref h9, .int x28, .int x29, .long z0, .int x30, .int x31, .ref h10, .ref h11, .ref h12, .ref h13, .ref h14, .int x32, .int x33, .int x34, .int x35, .int x36, .int x37, .int x38, .int x39, .int x40, .ref h15, .ref h16, .int x41, .int x42, .int x43, .int x44, .int x45, .int x46, .int x47, .int x48, .ref h17, .int x49, .int x50, .int x51, .int x52, .int x53])), (h2, .inl (y0, 16, .inl f0)), (h3, .inl (y1, 3, .inl f1)), (h4, .inl (y2, 3, .inl f2)), (h1, .inl (y3, 65536, .inl f3))] s.heap := hP
  have hl := lv_entry ([.ref h0]) (n := 2) (Nat.le_of_ble_eq_true rfl)
  rw [lg_entry_eq]
  generalize (lg_sl ([.ref h0]) ++ List.replicate (2 - (lg_sl ([.ref h0])).length) Slot.unset).toArray = ls at hl ⊢
  have hl : lv_has ls 2 [(0, .ref h0)] := hl
  generalize ([.ref h0] : List Value).toArray = ar at hG ⊢
  refine wq (fun Q hQ => ?_)
  refine lv_aload_n hx hb dX12_reset_0 rfl (lv_at hl 0 rfl) ?_
  refine lv_iconst (v := 0) hx hb dX12_reset_1 (by decide) ?_
  refine va_put (D := (dC, dI)) (ci := 12) (v := .int 0) (ty := .int) (C := RX12) (T := TX12) (N := 72) hx hb hG inGX12 tyX12 tyX12_ok nmX12 hown hK hP hD hS 0 rfl rfl 0 (by decide) (hG _ wd_1307) (fun _ h9 => h9) rfl (by decide +kernel) rfl rfl (Nat.le_of_ble_eq_true rfl) dX12_reset_2 (fun H locs hP hD hS => ?_)
  obtain ⟨hP, hD⟩ := nv_eq (ws' := [(h0, .inr (12, .int 0 :: .ref h1 :: .ref h2 :: .int x1 :: .int x2 :: .int x3 :: .int x4 :: .int x5 :: .int x6 :: .int x7 :: .int x8 :: .int x9 :: [.int x10, .int x11, .int x12, .int x13, .int x14, .int x15, .ref h3, .ref h4, .ref h5, .ref h6, .int x16, .int x17, .int x18, .int x19, .int x20, .int x21, .int x22, .int x23, .ref h7, .int x24, .int x25, .int x26, .int x27, .ref h8, .ref h9, .int x28, .int x29, .long z0, .int x30, .int x31, .ref h10, .ref h11, .ref h12, .ref h13, .ref h14, .int x32, .int x33, .int x34, .int x35, .int x36, .int x37, .int x38, .int x39, .int x40, .ref h15, .ref h16, .int x41, .int x42, .int x43, .int x44, .int x45, .int x46, .int x47, .int x48, .ref h17, .int x49, .int x50, .int x51, .int x52, .int x53])), (h2, .inl (y0, 16, .inl f0)), (h3, .inl (y1, 3, .inl f1)), (h4, .inl (y2, 3, .inl f2)), (h1, .inl (y3, 65536, .inl f3))]) hP hD rfl
  refine lv_iconst (v := 0) hx hb dX12_reset_5 (by decide) ?_
  refine lv_istore_n (lv' := [(1, .int 0), (0, .ref h0)]) hx hb dX12_reset_6 rfl hl (by decide) rfl (fun ls hl => ?_)
  refine lv_iload_n hx hb dX12_reset_7 rfl (lv_at hl 0 rfl) ?_
  refine lv_bipush (v := 16) hx hb dX12_reset_8 (by decide) ?_
  refine lv_icmp_ge (tgt := 26) hx hb dX12_reset_10 (by decide) (fun c => absurd c (by decide)) (fun _ => ?_)
  refine lv_aload_n hx hb dX12_reset_13 rfl (lv_at hl 1 rfl) ?_
  refine va_get (D := (dC, dI)) (ci := 12) (v := .ref h2) (C := RX12) (T := TX12) (N := 72) hx hb hG inGX12 hown hK hP 0 rfl rfl 2 (by decide) (hG _ wd_1309) (fun _ h9 => h9) rfl dX12_reset_14 ?_
  refine lv_iload_n hx hb dX12_reset_17 rfl (lv_at hl 0 rfl) ?_
  refine lv_iconst (v := 0) hx hb dX12_reset_18 (by decide) ?_
  refine va_iast hx hb hK hP hD hS 1 0 rfl rfl (iv_in (by decide : iv 0 0 0) (by decide) (by decide) : vp_in 0 16) dX12_reset_19 (fun H locs hP hD hS => ?_)
  obtain ⟨nf1, enf1⟩ : ∃ z, z = upd f0 (0 : Int32).toNatClampNeg 0 := ⟨_, rfl⟩
  obtain ⟨hP, hD⟩ := nv_eq (ws' := [(h0, .inr (12, .int 0 :: .ref h1 :: .ref h2 :: .int x1 :: .int x2 :: .int x3 :: .int x4 :: .int x5 :: .int x6 :: .int x7 :: .int x8 :: .int x9 :: [.int x10, .int x11, .int x12, .int x13, .int x14, .int x15, .ref h3, .ref h4, .ref h5, .ref h6, .int x16, .int x17, .int x18, .int x19, .int x20, .int x21, .int x22, .int x23, .ref h7, .int x24, .int x25, .int x26, .int x27, .ref h8, .ref h9, .int x28, .int x29, .long z0, .int x30, .int x31, .ref h10, .ref h11, .ref h12, .ref h13, .ref h14, .int x32, .int x33, .int x34, .int x35, .int x36, .int x37, .int x38, .int x39, .int x40, .ref h15, .ref h16, .int x41, .int x42, .int x43, .int x44, .int x45, .int x46, .int x47, .int x48, .ref h17, .int x49, .int x50, .int x51, .int x52, .int x53])), (h2, .inl (y0, 16, .inl nf1)), (h3, .inl (y1, 3, .inl f1)), (h4, .inl (y2, 3, .inl f2)), (h1, .inl (y3, 65536, .inl f3))]) hP hD (by subst enf1; rfl)
  have inf1 : ∀ j, iv (nf1 j) 0 65535 := by rw [enf1]; exact iv_upd if0 (by decide : iv 0 0 0) (by decide) (by decide) (by decide) (by decide)
  refine lv_iinc (v := 1) (lv' := [(1, .int 1), (0, .ref h0)]) hx hb dX12_reset_20 hl (k := 0) rfl (by decide) (by decide) rfl (fun ls hl => ?_)
  refine lv_goto (tgt := 7) hx hb dX12_reset_23 (by decide) ?_
  refine lv_iload_n hx hb dX12_reset_7 rfl (lv_at hl 0 rfl) ?_
  refine lv_bipush (v := 16) hx hb dX12_reset_8 (by decide) ?_
  refine lv_icmp_ge (tgt := 26) hx hb dX12_reset_10 (by decide) (fun c => absurd c (by decide)) (fun _ => ?_)
  refine lv_aload_n hx hb dX12_reset_13 rfl (lv_at hl 1 rfl) ?_
  refine va_get (D := (dC, dI)) (ci := 12) (v := .ref h2) (C := RX12) (T := TX12) (N := 72) hx hb hG inGX12 hown hK hP 0 rfl rfl 2 (by decide) (hG _ wd_1309) (fun _ h9 => h9) rfl dX12_reset_14 ?_
  refine lv_iload_n hx hb dX12_reset_17 rfl (lv_at hl 0 rfl) ?_
  refine lv_iconst (v := 0) hx hb dX12_reset_18 (by decide) ?_
  refine va_iast hx hb hK hP hD hS 1 0 rfl rfl (iv_in (by decide : iv 1 1 1) (by decide) (by decide) : vp_in 1 16) dX12_reset_19 (fun H locs hP hD hS => ?_)
  obtain ⟨nf2, enf2⟩ : ∃ z, z = upd nf1 (1 : Int32).toNatClampNeg 0 := ⟨_, rfl⟩
  obtain ⟨hP, hD⟩ := nv_eq (ws' := [(h0, .inr (12, .int 0 :: .ref h1 :: .ref h2 :: .int x1 :: .int x2 :: .int x3 :: .int x4 :: .int x5 :: .int x6 :: .int x7 :: .int x8 :: .int x9 :: [.int x10, .int x11, .int x12, .int x13, .int x14, .int x15, .ref h3, .ref h4, .ref h5, .ref h6, .int x16, .int x17, .int x18, .int x19, .int x20, .int x21, .int x22, .int x23, .ref h7, .int x24, .int x25, .int x26, .int x27, .ref h8, .ref h9, .int x28, .int x29, .long z0, .int x30, .int x31, .ref h10, .ref h11, .ref h12, .ref h13, .ref h14, .int x32, .int x33, .int x34, .int x35, .int x36, .int x37, .int x38, .int x39, .int x40, .ref h15, .ref h16, .int x41, .int x42, .int x43, .int x44, .int x45, .int x46, .int x47, .int x48, .ref h17, .int x49, .int x50, .int x51, .int x52, .int x53])), (h2, .inl (y0, 16, .inl nf2)), (h3, .inl (y1, 3, .inl f1)), (h4, .inl (y2, 3, .inl f2)), (h1, .inl (y3, 65536, .inl f3))]) hP hD (by subst enf2; rfl)
  have inf2 : ∀ j, iv (nf2 j) 0 65535 := by rw [enf2]; exact iv_upd inf1 (by decide : iv 0 0 0) (by decide) (by decide) (by decide) (by decide)
  refine lv_iinc (v := 2) (lv' := [(1, .int 2), (0, .ref h0)]) hx hb dX12_reset_20 hl (k := 0) rfl (by decide) (by decide) rfl (fun ls hl => ?_)
  refine lv_goto (tgt := 7) hx hb dX12_reset_23 (by decide) ?_
  refine lv_iload_n hx hb dX12_reset_7 rfl (lv_at hl 0 rfl) ?_
  refine lv_bipush (v := 16) hx hb dX12_reset_8 (by decide) ?_
  refine lv_icmp_ge (tgt := 26) hx hb dX12_reset_10 (by decide) (fun c => absurd c (by decide)) (fun _ => ?_)
  refine lv_aload_n hx hb dX12_reset_13 rfl (lv_at hl 1 rfl) ?_
  refine va_get (D := (dC, dI)) (ci := 12) (v := .ref h2) (C := RX12) (T := TX12) (N := 72) hx hb hG inGX12 hown hK hP 0 rfl rfl 2 (by decide) (hG _ wd_1309) (fun _ h9 => h9) rfl dX12_reset_14 ?_
  refine lv_iload_n hx hb dX12_reset_17 rfl (lv_at hl 0 rfl) ?_
  refine lv_iconst (v := 0) hx hb dX12_reset_18 (by decide) ?_
  refine va_iast hx hb hK hP hD hS 1 0 rfl rfl (iv_in (by decide : iv 2 2 2) (by decide) (by decide) : vp_in 2 16) dX12_reset_19 (fun H locs hP hD hS => ?_)
  obtain ⟨nf3, enf3⟩ : ∃ z, z = upd nf2 (2 : Int32).toNatClampNeg 0 := ⟨_, rfl⟩
  obtain ⟨hP, hD⟩ := nv_eq (ws' := [(h0, .inr (12, .int 0 :: .ref h1 :: .ref h2 :: .int x1 :: .int x2 :: .int x3 :: .int x4 :: .int x5 :: .int x6 :: .int x7 :: .int x8 :: .int x9 :: [.int x10, .int x11, .int x12, .int x13, .int x14, .int x15, .ref h3, .ref h4, .ref h5, .ref h6, .int x16, .int x17, .int x18, .int x19, .int x20, .int x21, .int x22, .int x23, .ref h7, .int x24, .int x25, .int x26, .int x27, .ref h8, .ref h9, .int x28, .int x29, .long z0, .int x30, .int x31, .ref h10, .ref h11, .ref h12, .ref h13, .ref h14, .int x32, .int x33, .int x34, .int x35, .int x36, .int x37, .int x38, .int x39, .int x40, .ref h15, .ref h16, .int x41, .int x42, .int x43, .int x44, .int x45, .int x46, .int x47, .int x48, .ref h17, .int x49, .int x50, .int x51, .int x52, .int x53])), (h2, .inl (y0, 16, .inl nf3)), (h3, .inl (y1, 3, .inl f1)), (h4, .inl (y2, 3, .inl f2)), (h1, .inl (y3, 65536, .inl f3))]) hP hD (by subst enf3; rfl)
  have inf3 : ∀ j, iv (nf3 j) 0 65535 := by rw [enf3]; exact iv_upd inf2 (by decide : iv 0 0 0) (by decide) (by decide) (by decide) (by decide)
  refine lv_iinc (v := 3) (lv' := [(1, .int 3), (0, .ref h0)]) hx hb dX12_reset_20 hl (k := 0) rfl (by decide) (by decide) rfl (fun ls hl => ?_)
  refine lv_goto (tgt := 7) hx hb dX12_reset_23 (by decide) ?_
  refine lv_iload_n hx hb dX12_reset_7 rfl (lv_at hl 0 rfl) ?_
  refine lv_bipush (v := 16) hx hb dX12_reset_8 (by decide) ?_
  refine lv_icmp_ge (tgt := 26) hx hb dX12_reset_10 (by decide) (fun c => absurd c (by decide)) (fun _ => ?_)
  refine lv_aload_n hx hb dX12_reset_13 rfl (lv_at hl 1 rfl) ?_
  refine va_get (D := (dC, dI)) (ci := 12) (v := .ref h2) (C := RX12) (T := TX12) (N := 72) hx hb hG inGX12 hown hK hP 0 rfl rfl 2 (by decide) (hG _ wd_1309) (fun _ h9 => h9) rfl dX12_reset_14 ?_
  refine lv_iload_n hx hb dX12_reset_17 rfl (lv_at hl 0 rfl) ?_
  refine lv_iconst (v := 0) hx hb dX12_reset_18 (by decide) ?_
  refine va_iast hx hb hK hP hD hS 1 0 rfl rfl (iv_in (by decide : iv 3 3 3) (by decide) (by decide) : vp_in 3 16) dX12_reset_19 (fun H locs hP hD hS => ?_)
  obtain ⟨nf4, enf4⟩ : ∃ z, z = upd nf3 (3 : Int32).toNatClampNeg 0 := ⟨_, rfl⟩
  obtain ⟨hP, hD⟩ := nv_eq (ws' := [(h0, .inr (12, .int 0 :: .ref h1 :: .ref h2 :: .int x1 :: .int x2 :: .int x3 :: .int x4 :: .int x5 :: .int x6 :: .int x7 :: .int x8 :: .int x9 :: [.int x10, .int x11, .int x12, .int x13, .int x14, .int x15, .ref h3, .ref h4, .ref h5, .ref h6, .int x16, .int x17, .int x18, .int x19, .int x20, .int x21, .int x22, .int x23, .ref h7, .int x24, .int x25, .int x26, .int x27, .ref h8, .ref h9, .int x28, .int x29, .long z0, .int x30, .int x31, .ref h10, .ref h11, .ref h12, .ref h13, .ref h14, .int x32, .int x33, .int x34, .int x35, .int x36, .int x37, .int x38, .int x39, .int x40, .ref h15, .ref h16, .int x41, .int x42, .int x43, .int x44, .int x45, .int x46, .int x47, .int x48, .ref h17, .int x49, .int x50, .int x51, .int x52, .int x53])), (h2, .inl (y0, 16, .inl nf4)), (h3, .inl (y1, 3, .inl f1)), (h4, .inl (y2, 3, .inl f2)), (h1, .inl (y3, 65536, .inl f3))]) hP hD (by subst enf4; rfl)
  have inf4 : ∀ j, iv (nf4 j) 0 65535 := by rw [enf4]; exact iv_upd inf3 (by decide : iv 0 0 0) (by decide) (by decide) (by decide) (by decide)
  refine lv_iinc (v := 4) (lv' := [(1, .int 4), (0, .ref h0)]) hx hb dX12_reset_20 hl (k := 0) rfl (by decide) (by decide) rfl (fun ls hl => ?_)
  refine lv_goto (tgt := 7) hx hb dX12_reset_23 (by decide) ?_
  refine lv_iload_n hx hb dX12_reset_7 rfl (lv_at hl 0 rfl) ?_
  refine lv_bipush (v := 16) hx hb dX12_reset_8 (by decide) ?_
  refine lv_icmp_ge (tgt := 26) hx hb dX12_reset_10 (by decide) (fun c => absurd c (by decide)) (fun _ => ?_)
  refine lv_aload_n hx hb dX12_reset_13 rfl (lv_at hl 1 rfl) ?_
  refine va_get (D := (dC, dI)) (ci := 12) (v := .ref h2) (C := RX12) (T := TX12) (N := 72) hx hb hG inGX12 hown hK hP 0 rfl rfl 2 (by decide) (hG _ wd_1309) (fun _ h9 => h9) rfl dX12_reset_14 ?_
  refine lv_iload_n hx hb dX12_reset_17 rfl (lv_at hl 0 rfl) ?_
  refine lv_iconst (v := 0) hx hb dX12_reset_18 (by decide) ?_
  refine va_iast hx hb hK hP hD hS 1 0 rfl rfl (iv_in (by decide : iv 4 4 4) (by decide) (by decide) : vp_in 4 16) dX12_reset_19 (fun H locs hP hD hS => ?_)
  obtain ⟨nf5, enf5⟩ : ∃ z, z = upd nf4 (4 : Int32).toNatClampNeg 0 := ⟨_, rfl⟩
  obtain ⟨hP, hD⟩ := nv_eq (ws' := [(h0, .inr (12, .int 0 :: .ref h1 :: .ref h2 :: .int x1 :: .int x2 :: .int x3 :: .int x4 :: .int x5 :: .int x6 :: .int x7 :: .int x8 :: .int x9 :: [.int x10, .int x11, .int x12, .int x13, .int x14, .int x15, .ref h3, .ref h4, .ref h5, .ref h6, .int x16, .int x17, .int x18, .int x19, .int x20, .int x21, .int x22, .int x23, .ref h7, .int x24, .int x25, .int x26, .int x27, .ref h8, .ref h9, .int x28, .int x29, .long z0, .int x30, .int x31, .ref h10, .ref h11, .ref h12, .ref h13, .ref h14, .int x32, .int x33, .int x34, .int x35, .int x36, .int x37, .int x38, .int x39, .int x40, .ref h15, .ref h16, .int x41, .int x42, .int x43, .int x44, .int x45, .int x46, .int x47, .int x48, .ref h17, .int x49, .int x50, .int x51, .int x52, .int x53])), (h2, .inl (y0, 16, .inl nf5)), (h3, .inl (y1, 3, .inl f1)), (h4, .inl (y2, 3, .inl f2)), (h1, .inl (y3, 65536, .inl f3))]) hP hD (by subst enf5; rfl)
  have inf5 : ∀ j, iv (nf5 j) 0 65535 := by rw [enf5]; exact iv_upd inf4 (by decide : iv 0 0 0) (by decide) (by decide) (by decide) (by decide)
  refine lv_iinc (v := 5) (lv' := [(1, .int 5), (0, .ref h0)]) hx hb dX12_reset_20 hl (k := 0) rfl (by decide) (by decide) rfl (fun ls hl => ?_)
  refine lv_goto (tgt := 7) hx hb dX12_reset_23 (by decide) ?_
  refine lv_iload_n hx hb dX12_reset_7 rfl (lv_at hl 0 rfl) ?_
  refine lv_bipush (v := 16) hx hb dX12_reset_8 (by decide) ?_
  refine lv_icmp_ge (tgt := 26) hx hb dX12_reset_10 (by decide) (fun c => absurd c (by decide)) (fun _ => ?_)
  refine lv_aload_n hx hb dX12_reset_13 rfl (lv_at hl 1 rfl) ?_
  refine va_get (D := (dC, dI)) (ci := 12) (v := .ref h2) (C := RX12) (T := TX12) (N := 72) hx hb hG inGX12 hown hK hP 0 rfl rfl 2 (by decide) (hG _ wd_1309) (fun _ h9 => h9) rfl dX12_reset_14 ?_
  refine lv_iload_n hx hb dX12_reset_17 rfl (lv_at hl 0 rfl) ?_
  refine lv_iconst (v := 0) hx hb dX12_reset_18 (by decide) ?_
  refine va_iast hx hb hK hP hD hS 1 0 rfl rfl (iv_in (by decide : iv 5 5 5) (by decide) (by decide) : vp_in 5 16) dX12_reset_19 (fun H locs hP hD hS => ?_)
  obtain ⟨nf6, enf6⟩ : ∃ z, z = upd nf5 (5 : Int32).toNatClampNeg 0 := ⟨_, rfl⟩
  obtain ⟨hP, hD⟩ := nv_eq (ws' := [(h0, .inr (12, .int 0 :: .ref h1 :: .ref h2 :: .int x1 :: .int x2 :: .int x3 :: .int x4 :: .int x5 :: .int x6 :: .int x7 :: .int x8 :: .int x9 :: [.int x10, .int x11, .int x12, .int x13, .int x14, .int x15, .ref h3, .ref h4, .ref h5, .ref h6, .int x16, .int x17, .int x18, .int x19, .int x20, .int x21, .int x22, .int x23, .ref h7, .int x24, .int x25, .int x26, .int x27, .ref h8, .ref h9, .int x28, .int x29, .long z0, .int x30, .int x31, .ref h10, .ref h11, .ref h12, .ref h13, .ref h14, .int x32, .int x33, .int x34, .int x35, .int x36, .int x37, .int x38, .int x39, .int x40, .ref h15, .ref h16, .int x41, .int x42, .int x43, .int x44, .int x45, .int x46, .int x47, .int x48, .ref h17, .int x49, .int x50, .int x51, .int x52, .int x53])), (h2, .inl (y0, 16, .inl nf6)), (h3, .inl (y1, 3, .inl f1)), (h4, .inl (y2, 3, .inl f2)), (h1, .inl (y3, 65536, .inl f3))]) hP hD (by subst enf6; rfl)
  have inf6 : ∀ j, iv (nf6 j) 0 65535 := by rw [enf6]; exact iv_upd inf5 (by decide : iv 0 0 0) (by decide) (by decide) (by decide) (by decide)
  refine lv_iinc (v := 6) (lv' := [(1, .int 6), (0, .ref h0)]) hx hb dX12_reset_20 hl (k := 0) rfl (by decide) (by decide) rfl (fun ls hl => ?_)
  refine lv_goto (tgt := 7) hx hb dX12_reset_23 (by decide) ?_
  refine lv_iload_n hx hb dX12_reset_7 rfl (lv_at hl 0 rfl) ?_
  refine lv_bipush (v := 16) hx hb dX12_reset_8 (by decide) ?_
  refine lv_icmp_ge (tgt := 26) hx hb dX12_reset_10 (by decide) (fun c => absurd c (by decide)) (fun _ => ?_)
  refine lv_aload_n hx hb dX12_reset_13 rfl (lv_at hl 1 rfl) ?_
  refine va_get (D := (dC, dI)) (ci := 12) (v := .ref h2) (C := RX12) (T := TX12) (N := 72) hx hb hG inGX12 hown hK hP 0 rfl rfl 2 (by decide) (hG _ wd_1309) (fun _ h9 => h9) rfl dX12_reset_14 ?_
  refine lv_iload_n hx hb dX12_reset_17 rfl (lv_at hl 0 rfl) ?_
  refine lv_iconst (v := 0) hx hb dX12_reset_18 (by decide) ?_
  refine va_iast hx hb hK hP hD hS 1 0 rfl rfl (iv_in (by decide : iv 6 6 6) (by decide) (by decide) : vp_in 6 16) dX12_reset_19 (fun H locs hP hD hS => ?_)
  obtain ⟨nf7, enf7⟩ : ∃ z, z = upd nf6 (6 : Int32).toNatClampNeg 0 := ⟨_, rfl⟩
  obtain ⟨hP, hD⟩ := nv_eq (ws' := [(h0, .inr (12, .int 0 :: .ref h1 :: .ref h2 :: .int x1 :: .int x2 :: .int x3 :: .int x4 :: .int x5 :: .int x6 :: .int x7 :: .int x8 :: .int x9 :: [.int x10, .int x11, .int x12, .int x13, .int x14, .int x15, .ref h3, .ref h4, .ref h5, .ref h6, .int x16, .int x17, .int x18, .int x19, .int x20, .int x21, .int x22, .int x23, .ref h7, .int x24, .int x25, .int x26, .int x27, .ref h8, .ref h9, .int x28, .int x29, .long z0, .int x30, .int x31, .ref h10, .ref h11, .ref h12, .ref h13, .ref h14, .int x32, .int x33, .int x34, .int x35, .int x36, .int x37, .int x38, .int x39, .int x40, .ref h15, .ref h16, .int x41, .int x42, .int x43, .int x44, .int x45, .int x46, .int x47, .int x48, .ref h17, .int x49, .int x50, .int x51, .int x52, .int x53])), (h2, .inl (y0, 16, .inl nf7)), (h3, .inl (y1, 3, .inl f1)), (h4, .inl (y2, 3, .inl f2)), (h1, .inl (y3, 65536, .inl f3))]) hP hD (by subst enf7; rfl)
  have inf7 : ∀ j, iv (nf7 j) 0 65535 := by rw [enf7]; exact iv_upd inf6 (by decide : iv 0 0 0) (by decide) (by decide) (by decide) (by decide)
  refine lv_iinc (v := 7) (lv' := [(1, .int 7), (0, .ref h0)]) hx hb dX12_reset_20 hl (k := 0) rfl (by decide) (by decide) rfl (fun ls hl => ?_)
  refine lv_goto (tgt := 7) hx hb dX12_reset_23 (by decide) ?_
  refine lv_iload_n hx hb dX12_reset_7 rfl (lv_at hl 0 rfl) ?_
  refine lv_bipush (v := 16) hx hb dX12_reset_8 (by decide) ?_
  refine lv_icmp_ge (tgt := 26) hx hb dX12_reset_10 (by decide) (fun c => absurd c (by decide)) (fun _ => ?_)
  refine lv_aload_n hx hb dX12_reset_13 rfl (lv_at hl 1 rfl) ?_
  refine va_get (D := (dC, dI)) (ci := 12) (v := .ref h2) (C := RX12) (T := TX12) (N := 72) hx hb hG inGX12 hown hK hP 0 rfl rfl 2 (by decide) (hG _ wd_1309) (fun _ h9 => h9) rfl dX12_reset_14 ?_
  refine lv_iload_n hx hb dX12_reset_17 rfl (lv_at hl 0 rfl) ?_
  refine lv_iconst (v := 0) hx hb dX12_reset_18 (by decide) ?_
  refine va_iast hx hb hK hP hD hS 1 0 rfl rfl (iv_in (by decide : iv 7 7 7) (by decide) (by decide) : vp_in 7 16) dX12_reset_19 (fun H locs hP hD hS => ?_)
  obtain ⟨nf8, enf8⟩ : ∃ z, z = upd nf7 (7 : Int32).toNatClampNeg 0 := ⟨_, rfl⟩
  obtain ⟨hP, hD⟩ := nv_eq (ws' := [(h0, .inr (12, .int 0 :: .ref h1 :: .ref h2 :: .int x1 :: .int x2 :: .int x3 :: .int x4 :: .int x5 :: .int x6 :: .int x7 :: .int x8 :: .int x9 :: [.int x10, .int x11, .int x12, .int x13, .int x14, .int x15, .ref h3, .ref h4, .ref h5, .ref h6, .int x16, .int x17, .int x18, .int x19, .int x20, .int x21, .int x22, .int x23, .ref h7, .int x24, .int x25, .int x26, .int x27, .ref h8, .ref h9, .int x28, .int x29, .long z0, .int x30, .int x31, .ref h10, .ref h11, .ref h12, .ref h13, .ref h14, .int x32, .int x33, .int x34, .int x35, .int x36, .int x37, .int x38, .int x39, .int x40, .ref h15, .ref h16, .int x41, .int x42, .int x43, .int x44, .int x45, .int x46, .int x47, .int x48, .ref h17, .int x49, .int x50, .int x51, .int x52, .int x53])), (h2, .inl (y0, 16, .inl nf8)), (h3, .inl (y1, 3, .inl f1)), (h4, .inl (y2, 3, .inl f2)), (h1, .inl (y3, 65536, .inl f3))]) hP hD (by subst enf8; rfl)
  have inf8 : ∀ j, iv (nf8 j) 0 65535 := by rw [enf8]; exact iv_upd inf7 (by decide : iv 0 0 0) (by decide) (by decide) (by decide) (by decide)
  refine lv_iinc (v := 8) (lv' := [(1, .int 8), (0, .ref h0)]) hx hb dX12_reset_20 hl (k := 0) rfl (by decide) (by decide) rfl (fun ls hl => ?_)
  refine lv_goto (tgt := 7) hx hb dX12_reset_23 (by decide) ?_
  refine lv_iload_n hx hb dX12_reset_7 rfl (lv_at hl 0 rfl) ?_
  refine lv_bipush (v := 16) hx hb dX12_reset_8 (by decide) ?_
  refine lv_icmp_ge (tgt := 26) hx hb dX12_reset_10 (by decide) (fun c => absurd c (by decide)) (fun _ => ?_)
  refine lv_aload_n hx hb dX12_reset_13 rfl (lv_at hl 1 rfl) ?_
  refine va_get (D := (dC, dI)) (ci := 12) (v := .ref h2) (C := RX12) (T := TX12) (N := 72) hx hb hG inGX12 hown hK hP 0 rfl rfl 2 (by decide) (hG _ wd_1309) (fun _ h9 => h9) rfl dX12_reset_14 ?_
  refine lv_iload_n hx hb dX12_reset_17 rfl (lv_at hl 0 rfl) ?_
  refine lv_iconst (v := 0) hx hb dX12_reset_18 (by decide) ?_
  refine va_iast hx hb hK hP hD hS 1 0 rfl rfl (iv_in (by decide : iv 8 8 8) (by decide) (by decide) : vp_in 8 16) dX12_reset_19 (fun H locs hP hD hS => ?_)
  obtain ⟨nf9, enf9⟩ : ∃ z, z = upd nf8 (8 : Int32).toNatClampNeg 0 := ⟨_, rfl⟩
  obtain ⟨hP, hD⟩ := nv_eq (ws' := [(h0, .inr (12, .int 0 :: .ref h1 :: .ref h2 :: .int x1 :: .int x2 :: .int x3 :: .int x4 :: .int x5 :: .int x6 :: .int x7 :: .int x8 :: .int x9 :: [.int x10, .int x11, .int x12, .int x13, .int x14, .int x15, .ref h3, .ref h4, .ref h5, .ref h6, .int x16, .int x17, .int x18, .int x19, .int x20, .int x21, .int x22, .int x23, .ref h7, .int x24, .int x25, .int x26, .int x27, .ref h8, .ref h9, .int x28, .int x29, .long z0, .int x30, .int x31, .ref h10, .ref h11, .ref h12, .ref h13, .ref h14, .int x32, .int x33, .int x34, .int x35, .int x36, .int x37, .int x38, .int x39, .int x40, .ref h15, .ref h16, .int x41, .int x42, .int x43, .int x44, .int x45, .int x46, .int x47, .int x48, .ref h17, .int x49, .int x50, .int x51, .int x52, .int x53])), (h2, .inl (y0, 16, .inl nf9)), (h3, .inl (y1, 3, .inl f1)), (h4, .inl (y2, 3, .inl f2)), (h1, .inl (y3, 65536, .inl f3))]) hP hD (by subst enf9; rfl)
  have inf9 : ∀ j, iv (nf9 j) 0 65535 := by rw [enf9]; exact iv_upd inf8 (by decide : iv 0 0 0) (by decide) (by decide) (by decide) (by decide)
  refine lv_iinc (v := 9) (lv' := [(1, .int 9), (0, .ref h0)]) hx hb dX12_reset_20 hl (k := 0) rfl (by decide) (by decide) rfl (fun ls hl => ?_)
  refine lv_goto (tgt := 7) hx hb dX12_reset_23 (by decide) ?_
  refine lv_iload_n hx hb dX12_reset_7 rfl (lv_at hl 0 rfl) ?_
  refine lv_bipush (v := 16) hx hb dX12_reset_8 (by decide) ?_
  refine lv_icmp_ge (tgt := 26) hx hb dX12_reset_10 (by decide) (fun c => absurd c (by decide)) (fun _ => ?_)
  refine lv_aload_n hx hb dX12_reset_13 rfl (lv_at hl 1 rfl) ?_
  refine va_get (D := (dC, dI)) (ci := 12) (v := .ref h2) (C := RX12) (T := TX12) (N := 72) hx hb hG inGX12 hown hK hP 0 rfl rfl 2 (by decide) (hG _ wd_1309) (fun _ h9 => h9) rfl dX12_reset_14 ?_
  refine lv_iload_n hx hb dX12_reset_17 rfl (lv_at hl 0 rfl) ?_
  refine lv_iconst (v := 0) hx hb dX12_reset_18 (by decide) ?_
  refine va_iast hx hb hK hP hD hS 1 0 rfl rfl (iv_in (by decide : iv 9 9 9) (by decide) (by decide) : vp_in 9 16) dX12_reset_19 (fun H locs hP hD hS => ?_)
  obtain ⟨nf10, enf10⟩ : ∃ z, z = upd nf9 (9 : Int32).toNatClampNeg 0 := ⟨_, rfl⟩
  obtain ⟨hP, hD⟩ := nv_eq (ws' := [(h0, .inr (12, .int 0 :: .ref h1 :: .ref h2 :: .int x1 :: .int x2 :: .int x3 :: .int x4 :: .int x5 :: .int x6 :: .int x7 :: .int x8 :: .int x9 :: [.int x10, .int x11, .int x12, .int x13, .int x14, .int x15, .ref h3, .ref h4, .ref h5, .ref h6, .int x16, .int x17, .int x18, .int x19, .int x20, .int x21, .int x22, .int x23, .ref h7, .int x24, .int x25, .int x26, .int x27, .ref h8, .ref h9, .int x28, .int x29, .long z0, .int x30, .int x31, .ref h10, .ref h11, .ref h12, .ref h13, .ref h14, .int x32, .int x33, .int x34, .int x35, .int x36, .int x37, .int x38, .int x39, .int x40, .ref h15, .ref h16, .int x41, .int x42, .int x43, .int x44, .int x45, .int x46, .int x47, .int x48, .ref h17, .int x49, .int x50, .int x51, .int x52, .int x53])), (h2, .inl (y0, 16, .inl nf10)), (h3, .inl (y1, 3, .inl f1)), (h4, .inl (y2, 3, .inl f2)), (h1, .inl (y3, 65536, .inl f3))]) hP hD (by subst enf10; rfl)
  have inf10 : ∀ j, iv (nf10 j) 0 65535 := by rw [enf10]; exact iv_upd inf9 (by decide : iv 0 0 0) (by decide) (by decide) (by decide) (by decide)
  refine lv_iinc (v := 10) (lv' := [(1, .int 10), (0, .ref h0)]) hx hb dX12_reset_20 hl (k := 0) rfl (by decide) (by decide) rfl (fun ls hl => ?_)
  refine lv_goto (tgt := 7) hx hb dX12_reset_23 (by decide) ?_
  refine lv_iload_n hx hb dX12_reset_7 rfl (lv_at hl 0 rfl) ?_
  refine lv_bipush (v := 16) hx hb dX12_reset_8 (by decide) ?_
  refine lv_icmp_ge (tgt := 26) hx hb dX12_reset_10 (by decide) (fun c => absurd c (by decide)) (fun _ => ?_)
  refine lv_aload_n hx hb dX12_reset_13 rfl (lv_at hl 1 rfl) ?_
  refine va_get (D := (dC, dI)) (ci := 12) (v := .ref h2) (C := RX12) (T := TX12) (N := 72) hx hb hG inGX12 hown hK hP 0 rfl rfl 2 (by decide) (hG _ wd_1309) (fun _ h9 => h9) rfl dX12_reset_14 ?_
  refine lv_iload_n hx hb dX12_reset_17 rfl (lv_at hl 0 rfl) ?_
  refine lv_iconst (v := 0) hx hb dX12_reset_18 (by decide) ?_
  refine va_iast hx hb hK hP hD hS 1 0 rfl rfl (iv_in (by decide : iv 10 10 10) (by decide) (by decide) : vp_in 10 16) dX12_reset_19 (fun H locs hP hD hS => ?_)
  obtain ⟨nf11, enf11⟩ : ∃ z, z = upd nf10 (10 : Int32).toNatClampNeg 0 := ⟨_, rfl⟩
  obtain ⟨hP, hD⟩ := nv_eq (ws' := [(h0, .inr (12, .int 0 :: .ref h1 :: .ref h2 :: .int x1 :: .int x2 :: .int x3 :: .int x4 :: .int x5 :: .int x6 :: .int x7 :: .int x8 :: .int x9 :: [.int x10, .int x11, .int x12, .int x13, .int x14, .int x15, .ref h3, .ref h4, .ref h5, .ref h6, .int x16, .int x17, .int x18, .int x19, .int x20, .int x21, .int x22, .int x23, .ref h7, .int x24, .int x25, .int x26, .int x27, .ref h8, .ref h9, .int x28, .int x29, .long z0, .int x30, .int x31, .ref h10, .ref h11, .ref h12, .ref h13, .ref h14, .int x32, .int x33, .int x34, .int x35, .int x36, .int x37, .int x38, .int x39, .int x40, .ref h15, .ref h16, .int x41, .int x42, .int x43, .int x44, .int x45, .int x46, .int x47, .int x48, .ref h17, .int x49, .int x50, .int x51, .int x52, .int x53])), (h2, .inl (y0, 16, .inl nf11)), (h3, .inl (y1, 3, .inl f1)), (h4, .inl (y2, 3, .inl f2)), (h1, .inl (y3, 65536, .inl f3))]) hP hD (by subst enf11; rfl)
  have inf11 : ∀ j, iv (nf11 j) 0 65535 := by rw [enf11]; exact iv_upd inf10 (by decide : iv 0 0 0) (by decide) (by decide) (by decide) (by decide)
  refine lv_iinc (v := 11) (lv' := [(1, .int 11), (0, .ref h0)]) hx hb dX12_reset_20 hl (k := 0) rfl (by decide) (by decide) rfl (fun ls hl => ?_)
  refine lv_goto (tgt := 7) hx hb dX12_reset_23 (by decide) ?_
  refine lv_iload_n hx hb dX12_reset_7 rfl (lv_at hl 0 rfl) ?_
  refine lv_bipush (v := 16) hx hb dX12_reset_8 (by decide) ?_
  refine lv_icmp_ge (tgt := 26) hx hb dX12_reset_10 (by decide) (fun c => absurd c (by decide)) (fun _ => ?_)
  refine lv_aload_n hx hb dX12_reset_13 rfl (lv_at hl 1 rfl) ?_
  refine va_get (D := (dC, dI)) (ci := 12) (v := .ref h2) (C := RX12) (T := TX12) (N := 72) hx hb hG inGX12 hown hK hP 0 rfl rfl 2 (by decide) (hG _ wd_1309) (fun _ h9 => h9) rfl dX12_reset_14 ?_
  refine lv_iload_n hx hb dX12_reset_17 rfl (lv_at hl 0 rfl) ?_
  refine lv_iconst (v := 0) hx hb dX12_reset_18 (by decide) ?_
  refine va_iast hx hb hK hP hD hS 1 0 rfl rfl (iv_in (by decide : iv 11 11 11) (by decide) (by decide) : vp_in 11 16) dX12_reset_19 (fun H locs hP hD hS => ?_)
  obtain ⟨nf12, enf12⟩ : ∃ z, z = upd nf11 (11 : Int32).toNatClampNeg 0 := ⟨_, rfl⟩
  obtain ⟨hP, hD⟩ := nv_eq (ws' := [(h0, .inr (12, .int 0 :: .ref h1 :: .ref h2 :: .int x1 :: .int x2 :: .int x3 :: .int x4 :: .int x5 :: .int x6 :: .int x7 :: .int x8 :: .int x9 :: [.int x10, .int x11, .int x12, .int x13, .int x14, .int x15, .ref h3, .ref h4, .ref h5, .ref h6, .int x16, .int x17, .int x18, .int x19, .int x20, .int x21, .int x22, .int x23, .ref h7, .int x24, .int x25, .int x26, .int x27, .ref h8, .ref h9, .int x28, .int x29, .long z0, .int x30, .int x31, .ref h10, .ref h11, .ref h12, .ref h13, .ref h14, .int x32, .int x33, .int x34, .int x35, .int x36, .int x37, .int x38, .int x39, .int x40, .ref h15, .ref h16, .int x41, .int x42, .int x43, .int x44, .int x45, .int x46, .int x47, .int x48, .ref h17, .int x49, .int x50, .int x51, .int x52, .int x53])), (h2, .inl (y0, 16, .inl nf12)), (h3, .inl (y1, 3, .inl f1)), (h4, .inl (y2, 3, .inl f2)), (h1, .inl (y3, 65536, .inl f3))]) hP hD (by subst enf12; rfl)
  have inf12 : ∀ j, iv (nf12 j) 0 65535 := by rw [enf12]; exact iv_upd inf11 (by decide : iv 0 0 0) (by decide) (by decide) (by decide) (by decide)
  refine lv_iinc (v := 12) (lv' := [(1, .int 12), (0, .ref h0)]) hx hb dX12_reset_20 hl (k := 0) rfl (by decide) (by decide) rfl (fun ls hl => ?_)
  refine lv_goto (tgt := 7) hx hb dX12_reset_23 (by decide) ?_
  refine lv_iload_n hx hb dX12_reset_7 rfl (lv_at hl 0 rfl) ?_
  refine lv_bipush (v := 16) hx hb dX12_reset_8 (by decide) ?_
  refine lv_icmp_ge (tgt := 26) hx hb dX12_reset_10 (by decide) (fun c => absurd c (by decide)) (fun _ => ?_)
  refine lv_aload_n hx hb dX12_reset_13 rfl (lv_at hl 1 rfl) ?_
  refine va_get (D := (dC, dI)) (ci := 12) (v := .ref h2) (C := RX12) (T := TX12) (N := 72) hx hb hG inGX12 hown hK hP 0 rfl rfl 2 (by decide) (hG _ wd_1309) (fun _ h9 => h9) rfl dX12_reset_14 ?_
  refine lv_iload_n hx hb dX12_reset_17 rfl (lv_at hl 0 rfl) ?_
  refine lv_iconst (v := 0) hx hb dX12_reset_18 (by decide) ?_
  refine va_iast hx hb hK hP hD hS 1 0 rfl rfl (iv_in (by decide : iv 12 12 12) (by decide) (by decide) : vp_in 12 16) dX12_reset_19 (fun H locs hP hD hS => ?_)
  obtain ⟨nf13, enf13⟩ : ∃ z, z = upd nf12 (12 : Int32).toNatClampNeg 0 := ⟨_, rfl⟩
  obtain ⟨hP, hD⟩ := nv_eq (ws' := [(h0, .inr (12, .int 0 :: .ref h1 :: .ref h2 :: .int x1 :: .int x2 :: .int x3 :: .int x4 :: .int x5 :: .int x6 :: .int x7 :: .int x8 :: .int x9 :: [.int x10, .int x11, .int x12, .int x13, .int x14, .int x15, .ref h3, .ref h4, .ref h5, .ref h6, .int x16, .int x17, .int x18, .int x19, .int x20, .int x21, .int x22, .int x23, .ref h7, .int x24, .int x25, .int x26, .int x27, .ref h8, .ref h9, .int x28, .int x29, .long z0, .int x30, .int x31, .ref h10, .ref h11, .ref h12, .ref h13, .ref h14, .int x32, .int x33, .int x34, .int x35, .int x36, .int x37, .int x38, .int x39, .int x40, .ref h15, .ref h16, .int x41, .int x42, .int x43, .int x44, .int x45, .int x46, .int x47, .int x48, .ref h17, .int x49, .int x50, .int x51, .int x52, .int x53])), (h2, .inl (y0, 16, .inl nf13)), (h3, .inl (y1, 3, .inl f1)), (h4, .inl (y2, 3, .inl f2)), (h1, .inl (y3, 65536, .inl f3))]) hP hD (by subst enf13; rfl)
  have inf13 : ∀ j, iv (nf13 j) 0 65535 := by rw [enf13]; exact iv_upd inf12 (by decide : iv 0 0 0) (by decide) (by decide) (by decide) (by decide)
  refine lv_iinc (v := 13) (lv' := [(1, .int 13), (0, .ref h0)]) hx hb dX12_reset_20 hl (k := 0) rfl (by decide) (by decide) rfl (fun ls hl => ?_)
  refine lv_goto (tgt := 7) hx hb dX12_reset_23 (by decide) ?_
  refine lv_iload_n hx hb dX12_reset_7 rfl (lv_at hl 0 rfl) ?_
  refine lv_bipush (v := 16) hx hb dX12_reset_8 (by decide) ?_
  refine lv_icmp_ge (tgt := 26) hx hb dX12_reset_10 (by decide) (fun c => absurd c (by decide)) (fun _ => ?_)
  refine lv_aload_n hx hb dX12_reset_13 rfl (lv_at hl 1 rfl) ?_
  refine va_get (D := (dC, dI)) (ci := 12) (v := .ref h2) (C := RX12) (T := TX12) (N := 72) hx hb hG inGX12 hown hK hP 0 rfl rfl 2 (by decide) (hG _ wd_1309) (fun _ h9 => h9) rfl dX12_reset_14 ?_
  refine lv_iload_n hx hb dX12_reset_17 rfl (lv_at hl 0 rfl) ?_
  refine lv_iconst (v := 0) hx hb dX12_reset_18 (by decide) ?_
  refine va_iast hx hb hK hP hD hS 1 0 rfl rfl (iv_in (by decide : iv 13 13 13) (by decide) (by decide) : vp_in 13 16) dX12_reset_19 (fun H locs hP hD hS => ?_)
  obtain ⟨nf14, enf14⟩ : ∃ z, z = upd nf13 (13 : Int32).toNatClampNeg 0 := ⟨_, rfl⟩
  obtain ⟨hP, hD⟩ := nv_eq (ws' := [(h0, .inr (12, .int 0 :: .ref h1 :: .ref h2 :: .int x1 :: .int x2 :: .int x3 :: .int x4 :: .int x5 :: .int x6 :: .int x7 :: .int x8 :: .int x9 :: [.int x10, .int x11, .int x12, .int x13, .int x14, .int x15, .ref h3, .ref h4, .ref h5, .ref h6, .int x16, .int x17, .int x18, .int x19, .int x20, .int x21, .int x22, .int x23, .ref h7, .int x24, .int x25, .int x26, .int x27, .ref h8, .ref h9, .int x28, .int x29, .long z0, .int x30, .int x31, .ref h10, .ref h11, .ref h12, .ref h13, .ref h14, .int x32, .int x33, .int x34, .int x35, .int x36, .int x37, .int x38, .int x39, .int x40, .ref h15, .ref h16, .int x41, .int x42, .int x43, .int x44, .int x45, .int x46, .int x47, .int x48, .ref h17, .int x49, .int x50, .int x51, .int x52, .int x53])), (h2, .inl (y0, 16, .inl nf14)), (h3, .inl (y1, 3, .inl f1)), (h4, .inl (y2, 3, .inl f2)), (h1, .inl (y3, 65536, .inl f3))]) hP hD (by subst enf14; rfl)
  have inf14 : ∀ j, iv (nf14 j) 0 65535 := by rw [enf14]; exact iv_upd inf13 (by decide : iv 0 0 0) (by decide) (by decide) (by decide) (by decide)
  refine lv_iinc (v := 14) (lv' := [(1, .int 14), (0, .ref h0)]) hx hb dX12_reset_20 hl (k := 0) rfl (by decide) (by decide) rfl (fun ls hl => ?_)
  refine lv_goto (tgt := 7) hx hb dX12_reset_23 (by decide) ?_
  refine lv_iload_n hx hb dX12_reset_7 rfl (lv_at hl 0 rfl) ?_
  refine lv_bipush (v := 16) hx hb dX12_reset_8 (by decide) ?_
  refine lv_icmp_ge (tgt := 26) hx hb dX12_reset_10 (by decide) (fun c => absurd c (by decide)) (fun _ => ?_)
  refine lv_aload_n hx hb dX12_reset_13 rfl (lv_at hl 1 rfl) ?_
  refine va_get (D := (dC, dI)) (ci := 12) (v := .ref h2) (C := RX12) (T := TX12) (N := 72) hx hb hG inGX12 hown hK hP 0 rfl rfl 2 (by decide) (hG _ wd_1309) (fun _ h9 => h9) rfl dX12_reset_14 ?_
  refine lv_iload_n hx hb dX12_reset_17 rfl (lv_at hl 0 rfl) ?_
  refine lv_iconst (v := 0) hx hb dX12_reset_18 (by decide) ?_
  refine va_iast hx hb hK hP hD hS 1 0 rfl rfl (iv_in (by decide : iv 14 14 14) (by decide) (by decide) : vp_in 14 16) dX12_reset_19 (fun H locs hP hD hS => ?_)
  obtain ⟨nf15, enf15⟩ : ∃ z, z = upd nf14 (14 : Int32).toNatClampNeg 0 := ⟨_, rfl⟩
  obtain ⟨hP, hD⟩ := nv_eq (ws' := [(h0, .inr (12, .int 0 :: .ref h1 :: .ref h2 :: .int x1 :: .int x2 :: .int x3 :: .int x4 :: .int x5 :: .int x6 :: .int x7 :: .int x8 :: .int x9 :: [.int x10, .int x11, .int x12, .int x13, .int x14, .int x15, .ref h3, .ref h4, .ref h5, .ref h6, .int x16, .int x17, .int x18, .int x19, .int x20, .int x21, .int x22, .int x23, .ref h7, .int x24, .int x25, .int x26, .int x27, .ref h8, .ref h9, .int x28, .int x29, .long z0, .int x30, .int x31, .ref h10, .ref h11, .ref h12, .ref h13, .ref h14, .int x32, .int x33, .int x34, .int x35, .int x36, .int x37, .int x38, .int x39, .int x40, .ref h15, .ref h16, .int x41, .int x42, .int x43, .int x44, .int x45, .int x46, .int x47, .int x48, .ref h17, .int x49, .int x50, .int x51, .int x52, .int x53])), (h2, .inl (y0, 16, .inl nf15)), (h3, .inl (y1, 3, .inl f1)), (h4, .inl (y2, 3, .inl f2)), (h1, .inl (y3, 65536, .inl f3))]) hP hD (by subst enf15; rfl)
  have inf15 : ∀ j, iv (nf15 j) 0 65535 := by rw [enf15]; exact iv_upd inf14 (by decide : iv 0 0 0) (by decide) (by decide) (by decide) (by decide)
  refine lv_iinc (v := 15) (lv' := [(1, .int 15), (0, .ref h0)]) hx hb dX12_reset_20 hl (k := 0) rfl (by decide) (by decide) rfl (fun ls hl => ?_)
  refine lv_goto (tgt := 7) hx hb dX12_reset_23 (by decide) ?_
  refine lv_iload_n hx hb dX12_reset_7 rfl (lv_at hl 0 rfl) ?_
  refine lv_bipush (v := 16) hx hb dX12_reset_8 (by decide) ?_
  refine lv_icmp_ge (tgt := 26) hx hb dX12_reset_10 (by decide) (fun c => absurd c (by decide)) (fun _ => ?_)
  refine lv_aload_n hx hb dX12_reset_13 rfl (lv_at hl 1 rfl) ?_
  refine va_get (D := (dC, dI)) (ci := 12) (v := .ref h2) (C := RX12) (T := TX12) (N := 72) hx hb hG inGX12 hown hK hP 0 rfl rfl 2 (by decide) (hG _ wd_1309) (fun _ h9 => h9) rfl dX12_reset_14 ?_
  refine lv_iload_n hx hb dX12_reset_17 rfl (lv_at hl 0 rfl) ?_
  refine lv_iconst (v := 0) hx hb dX12_reset_18 (by decide) ?_
  refine va_iast hx hb hK hP hD hS 1 0 rfl rfl (iv_in (by decide : iv 15 15 15) (by decide) (by decide) : vp_in 15 16) dX12_reset_19 (fun H locs hP hD hS => ?_)
  obtain ⟨nf16, enf16⟩ : ∃ z, z = upd nf15 (15 : Int32).toNatClampNeg 0 := ⟨_, rfl⟩
  obtain ⟨hP, hD⟩ := nv_eq (ws' := [(h0, .inr (12, .int 0 :: .ref h1 :: .ref h2 :: .int x1 :: .int x2 :: .int x3 :: .int x4 :: .int x5 :: .int x6 :: .int x7 :: .int x8 :: .int x9 :: [.int x10, .int x11, .int x12, .int x13, .int x14, .int x15, .ref h3, .ref h4, .ref h5, .ref h6, .int x16, .int x17, .int x18, .int x19, .int x20, .int x21, .int x22, .int x23, .ref h7, .int x24, .int x25, .int x26, .int x27, .ref h8, .ref h9, .int x28, .int x29, .long z0, .int x30, .int x31, .ref h10, .ref h11, .ref h12, .ref h13, .ref h14, .int x32, .int x33, .int x34, .int x35, .int x36, .int x37, .int x38, .int x39, .int x40, .ref h15, .ref h16, .int x41, .int x42, .int x43, .int x44, .int x45, .int x46, .int x47, .int x48, .ref h17, .int x49, .int x50, .int x51, .int x52, .int x53])), (h2, .inl (y0, 16, .inl nf16)), (h3, .inl (y1, 3, .inl f1)), (h4, .inl (y2, 3, .inl f2)), (h1, .inl (y3, 65536, .inl f3))]) hP hD (by subst enf16; rfl)
  have inf16 : ∀ j, iv (nf16 j) 0 65535 := by rw [enf16]; exact iv_upd inf15 (by decide : iv 0 0 0) (by decide) (by decide) (by decide) (by decide)
  refine lv_iinc (v := 16) (lv' := [(1, .int 16), (0, .ref h0)]) hx hb dX12_reset_20 hl (k := 0) rfl (by decide) (by decide) rfl (fun ls hl => ?_)
  refine lv_goto (tgt := 7) hx hb dX12_reset_23 (by decide) ?_
  refine lv_iload_n hx hb dX12_reset_7 rfl (lv_at hl 0 rfl) ?_
  refine lv_bipush (v := 16) hx hb dX12_reset_8 (by decide) ?_
  refine lv_icmp_ge (tgt := 26) hx hb dX12_reset_10 (by decide) (fun _ => ?_) (fun c => absurd (by decide) c)
  refine lv_aload_n hx hb dX12_reset_26 rfl (lv_at hl 1 rfl) ?_
  refine lv_iconst (v := 0) hx hb dX12_reset_27 (by decide) ?_
  refine va_put (D := (dC, dI)) (ci := 12) (v := .int 0) (ty := .int) (C := RX12) (T := TX12) (N := 72) hx hb hG inGX12 tyX12 tyX12_ok nmX12 hown hK hP hD hS 0 rfl rfl 3 (by decide) (hG _ wd_1310) (fun _ h9 => h9) rfl (by decide +kernel) rfl rfl (Nat.le_of_ble_eq_true rfl) dX12_reset_28 (fun H locs hP hD hS => ?_)
  obtain ⟨hP, hD⟩ := nv_eq (ws' := [(h0, .inr (12, .int 0 :: .ref h1 :: .ref h2 :: .int 0 :: .int x2 :: .int x3 :: .int x4 :: .int x5 :: .int x6 :: .int x7 :: .int x8 :: .int x9 :: [.int x10, .int x11, .int x12, .int x13, .int x14, .int x15, .ref h3, .ref h4, .ref h5, .ref h6, .int x16, .int x17, .int x18, .int x19, .int x20, .int x21, .int x22, .int x23, .ref h7, .int x24, .int x25, .int x26, .int x27, .ref h8, .ref h9, .int x28, .int x29, .long z0, .int x30, .int x31, .ref h10, .ref h11, .ref h12, .ref h13, .ref h14, .int x32, .int x33, .int x34, .int x35, .int x36, .int x37, .int x38, .int x39, .int x40, .ref h15, .ref h16, .int x41, .int x42, .int x43, .int x44, .int x45, .int x46, .int x47, .int x48, .ref h17, .int x49, .int x50, .int x51, .int x52, .int x53])), (h2, .inl (y0, 16, .inl nf16)), (h3, .inl (y1, 3, .inl f1)), (h4, .inl (y2, 3, .inl f2)), (h1, .inl (y3, 65536, .inl f3))]) hP hD rfl
  refine lv_aload_n hx hb dX12_reset_31 rfl (lv_at hl 1 rfl) ?_
  refine lv_iconst (v := 0) hx hb dX12_reset_32 (by decide) ?_
  refine va_put (D := (dC, dI)) (ci := 12) (v := .int 0) (ty := .int) (C := RX12) (T := TX12) (N := 72) hx hb hG inGX12 tyX12 tyX12_ok nmX12 hown hK hP hD hS 0 rfl rfl 4 (by decide) (hG _ wd_1311) (fun _ h9 => h9) rfl (by decide +kernel) rfl rfl (Nat.le_of_ble_eq_true rfl) dX12_reset_33 (fun H locs hP hD hS => ?_)
  obtain ⟨hP, hD⟩ := nv_eq (ws' := [(h0, .inr (12, .int 0 :: .ref h1 :: .ref h2 :: .int 0 :: .int 0 :: .int x3 :: .int x4 :: .int x5 :: .int x6 :: .int x7 :: .int x8 :: .int x9 :: [.int x10, .int x11, .int x12, .int x13, .int x14, .int x15, .ref h3, .ref h4, .ref h5, .ref h6, .int x16, .int x17, .int x18, .int x19, .int x20, .int x21, .int x22, .int x23, .ref h7, .int x24, .int x25, .int x26, .int x27, .ref h8, .ref h9, .int x28, .int x29, .long z0, .int x30, .int x31, .ref h10, .ref h11, .ref h12, .ref h13, .ref h14, .int x32, .int x33, .int x34, .int x35, .int x36, .int x37, .int x38, .int x39, .int x40, .ref h15, .ref h16, .int x41, .int x42, .int x43, .int x44, .int x45, .int x46, .int x47, .int x48, .ref h17, .int x49, .int x50, .int x51, .int x52, .int x53])), (h2, .inl (y0, 16, .inl nf16)), (h3, .inl (y1, 3, .inl f1)), (h4, .inl (y2, 3, .inl f2)), (h1, .inl (y3, 65536, .inl f3))]) hP hD rfl
  refine lv_aload_n hx hb dX12_reset_36 rfl (lv_at hl 1 rfl) ?_
  refine lv_iconst (v := 0) hx hb dX12_reset_37 (by decide) ?_
  refine va_put (D := (dC, dI)) (ci := 12) (v := .int 0) (ty := .int) (C := RX12) (T := TX12) (N := 72) hx hb hG inGX12 tyX12 tyX12_ok nmX12 hown hK hP hD hS 0 rfl rfl 5 (by decide) (hG _ wd_1312) (fun _ h9 => h9) rfl (by decide +kernel) rfl rfl (Nat.le_of_ble_eq_true rfl) dX12_reset_38 (fun H locs hP hD hS => ?_)
  obtain ⟨hP, hD⟩ := nv_eq (ws' := [(h0, .inr (12, .int 0 :: .ref h1 :: .ref h2 :: .int 0 :: .int 0 :: .int 0 :: .int x4 :: .int x5 :: .int x6 :: .int x7 :: .int x8 :: .int x9 :: [.int x10, .int x11, .int x12, .int x13, .int x14, .int x15, .ref h3, .ref h4, .ref h5, .ref h6, .int x16, .int x17, .int x18, .int x19, .int x20, .int x21, .int x22, .int x23, .ref h7, .int x24, .int x25, .int x26, .int x27, .ref h8, .ref h9, .int x28, .int x29, .long z0, .int x30, .int x31, .ref h10, .ref h11, .ref h12, .ref h13, .ref h14, .int x32, .int x33, .int x34, .int x35, .int x36, .int x37, .int x38, .int x39, .int x40, .ref h15, .ref h16, .int x41, .int x42, .int x43, .int x44, .int x45, .int x46, .int x47, .int x48, .ref h17, .int x49, .int x50, .int x51, .int x52, .int x53])), (h2, .inl (y0, 16, .inl nf16)), (h3, .inl (y1, 3, .inl f1)), (h4, .inl (y2, 3, .inl f2)), (h1, .inl (y3, 65536, .inl f3))]) hP hD rfl
  refine lv_aload_n hx hb dX12_reset_41 rfl (lv_at hl 1 rfl) ?_
  refine lv_iconst (v := 0) hx hb dX12_reset_42 (by decide) ?_
  refine va_put (D := (dC, dI)) (ci := 12) (v := .int 0) (ty := .int) (C := RX12) (T := TX12) (N := 72) hx hb hG inGX12 tyX12 tyX12_ok nmX12 hown hK hP hD hS 0 rfl rfl 6 (by decide) (hG _ wd_1313) (fun _ h9 => h9) rfl (by decide +kernel) rfl rfl (Nat.le_of_ble_eq_true rfl) dX12_reset_43 (fun H locs hP hD hS => ?_)
  obtain ⟨hP, hD⟩ := nv_eq (ws' := [(h0, .inr (12, .int 0 :: .ref h1 :: .ref h2 :: .int 0 :: .int 0 :: .int 0 :: .int 0 :: .int x5 :: .int x6 :: .int x7 :: .int x8 :: .int x9 :: [.int x10, .int x11, .int x12, .int x13, .int x14, .int x15, .ref h3, .ref h4, .ref h5, .ref h6, .int x16, .int x17, .int x18, .int x19, .int x20, .int x21, .int x22, .int x23, .ref h7, .int x24, .int x25, .int x26, .int x27, .ref h8, .ref h9, .int x28, .int x29, .long z0, .int x30, .int x31, .ref h10, .ref h11, .ref h12, .ref h13, .ref h14, .int x32, .int x33, .int x34, .int x35, .int x36, .int x37, .int x38, .int x39, .int x40, .ref h15, .ref h16, .int x41, .int x42, .int x43, .int x44, .int x45, .int x46, .int x47, .int x48, .ref h17, .int x49, .int x50, .int x51, .int x52, .int x53])), (h2, .inl (y0, 16, .inl nf16)), (h3, .inl (y1, 3, .inl f1)), (h4, .inl (y2, 3, .inl f2)), (h1, .inl (y3, 65536, .inl f3))]) hP hD rfl
  refine lv_aload_n hx hb dX12_reset_46 rfl (lv_at hl 1 rfl) ?_
  refine lv_iconst (v := 0) hx hb dX12_reset_47 (by decide) ?_
  refine va_put (D := (dC, dI)) (ci := 12) (v := .int 0) (ty := .int) (C := RX12) (T := TX12) (N := 72) hx hb hG inGX12 tyX12 tyX12_ok nmX12 hown hK hP hD hS 0 rfl rfl 7 (by decide) (hG _ wd_1314) (fun _ h9 => h9) rfl (by decide +kernel) rfl rfl (Nat.le_of_ble_eq_true rfl) dX12_reset_48 (fun H locs hP hD hS => ?_)
  obtain ⟨hP, hD⟩ := nv_eq (ws' := [(h0, .inr (12, .int 0 :: .ref h1 :: .ref h2 :: .int 0 :: .int 0 :: .int 0 :: .int 0 :: .int 0 :: .int x6 :: .int x7 :: .int x8 :: .int x9 :: [.int x10, .int x11, .int x12, .int x13, .int x14, .int x15, .ref h3, .ref h4, .ref h5, .ref h6, .int x16, .int x17, .int x18, .int x19, .int x20, .int x21, .int x22, .int x23, .ref h7, .int x24, .int x25, .int x26, .int x27, .ref h8, .ref h9, .int x28, .int x29, .long z0, .int x30, .int x31, .ref h10, .ref h11, .ref h12, .ref h13, .ref h14, .int x32, .int x33, .int x34, .int x35, .int x36, .int x37, .int x38, .int x39, .int x40, .ref h15, .ref h16, .int x41, .int x42, .int x43, .int x44, .int x45, .int x46, .int x47, .int x48, .ref h17, .int x49, .int x50, .int x51, .int x52, .int x53])), (h2, .inl (y0, 16, .inl nf16)), (h3, .inl (y1, 3, .inl f1)), (h4, .inl (y2, 3, .inl f2)), (h1, .inl (y3, 65536, .inl f3))]) hP hD rfl
  refine lv_aload_n hx hb dX12_reset_51 rfl (lv_at hl 1 rfl) ?_
  refine lv_iconst (v := 0) hx hb dX12_reset_52 (by decide) ?_
  refine va_put (D := (dC, dI)) (ci := 12) (v := .int 0) (ty := .int) (C := RX12) (T := TX12) (N := 72) hx hb hG inGX12 tyX12 tyX12_ok nmX12 hown hK hP hD hS 0 rfl rfl 8 (by decide) (hG _ wd_1315) (fun _ h9 => h9) rfl (by decide +kernel) rfl rfl (Nat.le_of_ble_eq_true rfl) dX12_reset_53 (fun H locs hP hD hS => ?_)
  obtain ⟨hP, hD⟩ := nv_eq (ws' := [(h0, .inr (12, .int 0 :: .ref h1 :: .ref h2 :: .int 0 :: .int 0 :: .int 0 :: .int 0 :: .int 0 :: .int 0 :: .int x7 :: .int x8 :: .int x9 :: [.int x10, .int x11, .int x12, .int x13, .int x14, .int x15, .ref h3, .ref h4, .ref h5, .ref h6, .int x16, .int x17, .int x18, .int x19, .int x20, .int x21, .int x22, .int x23, .ref h7, .int x24, .int x25, .int x26, .int x27, .ref h8, .ref h9, .int x28, .int x29, .long z0, .int x30, .int x31, .ref h10, .ref h11, .ref h12, .ref h13, .ref h14, .int x32, .int x33, .int x34, .int x35, .int x36, .int x37, .int x38, .int x39, .int x40, .ref h15, .ref h16, .int x41, .int x42, .int x43, .int x44, .int x45, .int x46, .int x47, .int x48, .ref h17, .int x49, .int x50, .int x51, .int x52, .int x53])), (h2, .inl (y0, 16, .inl nf16)), (h3, .inl (y1, 3, .inl f1)), (h4, .inl (y2, 3, .inl f2)), (h1, .inl (y3, 65536, .inl f3))]) hP hD rfl
  refine lv_aload_n hx hb dX12_reset_56 rfl (lv_at hl 1 rfl) ?_
  refine lv_iconst (v := 0) hx hb dX12_reset_57 (by decide) ?_
  refine va_put (D := (dC, dI)) (ci := 12) (v := .int 0) (ty := .int) (C := RX12) (T := TX12) (N := 72) hx hb hG inGX12 tyX12 tyX12_ok nmX12 hown hK hP hD hS 0 rfl rfl 9 (by decide) (hG _ wd_1316) (fun _ h9 => h9) rfl (by decide +kernel) rfl rfl (Nat.le_of_ble_eq_true rfl) dX12_reset_58 (fun H locs hP hD hS => ?_)
  obtain ⟨hP, hD⟩ := nv_eq (ws' := [(h0, .inr (12, .int 0 :: .ref h1 :: .ref h2 :: .int 0 :: .int 0 :: .int 0 :: .int 0 :: .int 0 :: .int 0 :: .int 0 :: .int x8 :: .int x9 :: [.int x10, .int x11, .int x12, .int x13, .int x14, .int x15, .ref h3, .ref h4, .ref h5, .ref h6, .int x16, .int x17, .int x18, .int x19, .int x20, .int x21, .int x22, .int x23, .ref h7, .int x24, .int x25, .int x26, .int x27, .ref h8, .ref h9, .int x28, .int x29, .long z0, .int x30, .int x31, .ref h10, .ref h11, .ref h12, .ref h13, .ref h14, .int x32, .int x33, .int x34, .int x35, .int x36, .int x37, .int x38, .int x39, .int x40, .ref h15, .ref h16, .int x41, .int x42, .int x43, .int x44, .int x45, .int x46, .int x47, .int x48, .ref h17, .int x49, .int x50, .int x51, .int x52, .int x53])), (h2, .inl (y0, 16, .inl nf16)), (h3, .inl (y1, 3, .inl f1)), (h4, .inl (y2, 3, .inl f2)), (h1, .inl (y3, 65536, .inl f3))]) hP hD rfl
  refine lv_aload_n hx hb dX12_reset_61 rfl (lv_at hl 1 rfl) ?_
  refine lv_iconst (v := 0) hx hb dX12_reset_62 (by decide) ?_
  refine va_put (D := (dC, dI)) (ci := 12) (v := .int 0) (ty := .int) (C := RX12) (T := TX12) (N := 72) hx hb hG inGX12 tyX12 tyX12_ok nmX12 hown hK hP hD hS 0 rfl rfl 10 (by decide) (hG _ wd_1317) (fun _ h9 => h9) rfl (by decide +kernel) rfl rfl (Nat.le_of_ble_eq_true rfl) dX12_reset_63 (fun H locs hP hD hS => ?_)
  obtain ⟨hP, hD⟩ := nv_eq (ws' := [(h0, .inr (12, .int 0 :: .ref h1 :: .ref h2 :: .int 0 :: .int 0 :: .int 0 :: .int 0 :: .int 0 :: .int 0 :: .int 0 :: .int 0 :: .int x9 :: [.int x10, .int x11, .int x12, .int x13, .int x14, .int x15, .ref h3, .ref h4, .ref h5, .ref h6, .int x16, .int x17, .int x18, .int x19, .int x20, .int x21, .int x22, .int x23, .ref h7, .int x24, .int x25, .int x26, .int x27, .ref h8, .ref h9, .int x28, .int x29, .long z0, .int x30, .int x31, .ref h10, .ref h11, .ref h12, .ref h13, .ref h14, .int x32, .int x33, .int x34, .int x35, .int x36, .int x37, .int x38, .int x39, .int x40, .ref h15, .ref h16, .int x41, .int x42, .int x43, .int x44, .int x45, .int x46, .int x47, .int x48, .ref h17, .int x49, .int x50, .int x51, .int x52, .int x53])), (h2, .inl (y0, 16, .inl nf16)), (h3, .inl (y1, 3, .inl f1)), (h4, .inl (y2, 3, .inl f2)), (h1, .inl (y3, 65536, .inl f3))]) hP hD rfl
  refine lv_aload_n hx hb dX12_reset_66 rfl (lv_at hl 1 rfl) ?_
  refine lv_iconst (v := 0) hx hb dX12_reset_67 (by decide) ?_
  refine va_put (D := (dC, dI)) (ci := 12) (v := .int 0) (ty := .int) (C := RX12) (T := TX12) (N := 72) hx hb hG inGX12 tyX12 tyX12_ok nmX12 hown hK hP hD hS 0 rfl rfl 11 (by decide) (hG _ wd_1318) (fun _ h9 => h9) rfl (by decide +kernel) rfl rfl (Nat.le_of_ble_eq_true rfl) dX12_reset_68 (fun H locs hP hD hS => ?_)
  obtain ⟨hP, hD⟩ := nv_eq (ws' := [(h0, .inr (12, .int 0 :: .ref h1 :: .ref h2 :: .int 0 :: .int 0 :: .int 0 :: .int 0 :: .int 0 :: .int 0 :: .int 0 :: .int 0 :: .int 0 :: [.int x10, .int x11, .int x12, .int x13, .int x14, .int x15, .ref h3, .ref h4, .ref h5, .ref h6, .int x16, .int x17, .int x18, .int x19, .int x20, .int x21, .int x22, .int x23, .ref h7, .int x24, .int x25, .int x26, .int x27, .ref h8, .ref h9, .int x28, .int x29, .long z0, .int x30, .int x31, .ref h10, .ref h11, .ref h12, .ref h13, .ref h14, .int x32, .int x33, .int x34, .int x35, .int x36, .int x37, .int x38, .int x39, .int x40, .ref h15, .ref h16, .int x41, .int x42, .int x43, .int x44, .int x45, .int x46, .int x47, .int x48, .ref h17, .int x49, .int x50, .int x51, .int x52, .int x53])), (h2, .inl (y0, 16, .inl nf16)), (h3, .inl (y1, 3, .inl f1)), (h4, .inl (y2, 3, .inl f2)), (h1, .inl (y3, 65536, .inl f3))]) hP hD rfl
  refine lv_aload_n hx hb dX12_reset_71 rfl (lv_at hl 1 rfl) ?_
  refine lv_iconst (v := 0) hx hb dX12_reset_72 (by decide) ?_
  refine va_put (D := (dC, dI)) (ci := 12) (v := .int 0) (ty := .int) (C := RX12) (T := TX12) (N := 72) hx hb hG inGX12 tyX12 tyX12_ok nmX12 hown hK hP hD hS 0 rfl rfl 12 (by decide) (hG _ wd_1319) (fun _ h9 => h9) rfl (by decide +kernel) rfl rfl (Nat.le_of_ble_eq_true rfl) dX12_reset_73 (fun H locs hP hD hS => ?_)
  obtain ⟨hP, hD⟩ := nv_eq (ws' := [(h0, .inr (12, .int 0 :: .ref h1 :: .ref h2 :: .int 0 :: .int 0 :: .int 0 :: .int 0 :: .int 0 :: .int 0 :: .int 0 :: .int 0 :: .int 0 :: [.int 0, .int x11, .int x12, .int x13, .int x14, .int x15, .ref h3, .ref h4, .ref h5, .ref h6, .int x16, .int x17, .int x18, .int x19, .int x20, .int x21, .int x22, .int x23, .ref h7, .int x24, .int x25, .int x26, .int x27, .ref h8, .ref h9, .int x28, .int x29, .long z0, .int x30, .int x31, .ref h10, .ref h11, .ref h12, .ref h13, .ref h14, .int x32, .int x33, .int x34, .int x35, .int x36, .int x37, .int x38, .int x39, .int x40, .ref h15, .ref h16, .int x41, .int x42, .int x43, .int x44, .int x45, .int x46, .int x47, .int x48, .ref h17, .int x49, .int x50, .int x51, .int x52, .int x53])), (h2, .inl (y0, 16, .inl nf16)), (h3, .inl (y1, 3, .inl f1)), (h4, .inl (y2, 3, .inl f2)), (h1, .inl (y3, 65536, .inl f3))]) hP hD rfl
  refine lv_aload_n hx hb dX12_reset_76 rfl (lv_at hl 1 rfl) ?_
  refine lv_iconst (v := 0) hx hb dX12_reset_77 (by decide) ?_
  refine va_put (D := (dC, dI)) (ci := 12) (v := .int 0) (ty := .int) (C := RX12) (T := TX12) (N := 72) hx hb hG inGX12 tyX12 tyX12_ok nmX12 hown hK hP hD hS 0 rfl rfl 13 (by decide) (hG _ wd_1320) (fun _ h9 => h9) rfl (by decide +kernel) rfl rfl (Nat.le_of_ble_eq_true rfl) dX12_reset_78 (fun H locs hP hD hS => ?_)
  obtain ⟨hP, hD⟩ := nv_eq (ws' := [(h0, .inr (12, .int 0 :: .ref h1 :: .ref h2 :: .int 0 :: .int 0 :: .int 0 :: .int 0 :: .int 0 :: .int 0 :: .int 0 :: .int 0 :: .int 0 :: [.int 0, .int 0, .int x12, .int x13, .int x14, .int x15, .ref h3, .ref h4, .ref h5, .ref h6, .int x16, .int x17, .int x18, .int x19, .int x20, .int x21, .int x22, .int x23, .ref h7, .int x24, .int x25, .int x26, .int x27, .ref h8, .ref h9, .int x28, .int x29, .long z0, .int x30, .int x31, .ref h10, .ref h11, .ref h12, .ref h13, .ref h14, .int x32, .int x33, .int x34, .int x35, .int x36, .int x37, .int x38, .int x39, .int x40, .ref h15, .ref h16, .int x41, .int x42, .int x43, .int x44, .int x45, .int x46, .int x47, .int x48, .ref h17, .int x49, .int x50, .int x51, .int x52, .int x53])), (h2, .inl (y0, 16, .inl nf16)), (h3, .inl (y1, 3, .inl f1)), (h4, .inl (y2, 3, .inl f2)), (h1, .inl (y3, 65536, .inl f3))]) hP hD rfl
  refine lv_aload_n hx hb dX12_reset_81 rfl (lv_at hl 1 rfl) ?_
  refine lv_iconst (v := 0) hx hb dX12_reset_82 (by decide) ?_
  refine va_put (D := (dC, dI)) (ci := 12) (v := .int 0) (ty := .int) (C := RX12) (T := TX12) (N := 72) hx hb hG inGX12 tyX12 tyX12_ok nmX12 hown hK hP hD hS 0 rfl rfl 14 (by decide) (hG _ wd_1321) (fun _ h9 => h9) rfl (by decide +kernel) rfl rfl (Nat.le_of_ble_eq_true rfl) dX12_reset_83 (fun H locs hP hD hS => ?_)
  obtain ⟨hP, hD⟩ := nv_eq (ws' := [(h0, .inr (12, .int 0 :: .ref h1 :: .ref h2 :: .int 0 :: .int 0 :: .int 0 :: .int 0 :: .int 0 :: .int 0 :: .int 0 :: .int 0 :: .int 0 :: [.int 0, .int 0, .int 0, .int x13, .int x14, .int x15, .ref h3, .ref h4, .ref h5, .ref h6, .int x16, .int x17, .int x18, .int x19, .int x20, .int x21, .int x22, .int x23, .ref h7, .int x24, .int x25, .int x26, .int x27, .ref h8, .ref h9, .int x28, .int x29, .long z0, .int x30, .int x31, .ref h10, .ref h11, .ref h12, .ref h13, .ref h14, .int x32, .int x33, .int x34, .int x35, .int x36, .int x37, .int x38, .int x39, .int x40, .ref h15, .ref h16, .int x41, .int x42, .int x43, .int x44, .int x45, .int x46, .int x47, .int x48, .ref h17, .int x49, .int x50, .int x51, .int x52, .int x53])), (h2, .inl (y0, 16, .inl nf16)), (h3, .inl (y1, 3, .inl f1)), (h4, .inl (y2, 3, .inl f2)), (h1, .inl (y3, 65536, .inl f3))]) hP hD rfl
  refine lv_aload_n hx hb dX12_reset_86 rfl (lv_at hl 1 rfl) ?_
  refine lv_iconst (v := 0) hx hb dX12_reset_87 (by decide) ?_
  refine va_put (D := (dC, dI)) (ci := 12) (v := .int 0) (ty := .int) (C := RX12) (T := TX12) (N := 72) hx hb hG inGX12 tyX12 tyX12_ok nmX12 hown hK hP hD hS 0 rfl rfl 15 (by decide) (hG _ wd_1322) (fun _ h9 => h9) rfl (by decide +kernel) rfl rfl (Nat.le_of_ble_eq_true rfl) dX12_reset_88 (fun H locs hP hD hS => ?_)
  obtain ⟨hP, hD⟩ := nv_eq (ws' := [(h0, .inr (12, .int 0 :: .ref h1 :: .ref h2 :: .int 0 :: .int 0 :: .int 0 :: .int 0 :: .int 0 :: .int 0 :: .int 0 :: .int 0 :: .int 0 :: [.int 0, .int 0, .int 0, .int 0, .int x14, .int x15, .ref h3, .ref h4, .ref h5, .ref h6, .int x16, .int x17, .int x18, .int x19, .int x20, .int x21, .int x22, .int x23, .ref h7, .int x24, .int x25, .int x26, .int x27, .ref h8, .ref h9, .int x28, .int x29, .long z0, .int x30, .int x31, .ref h10, .ref h11, .ref h12, .ref h13, .ref h14, .int x32, .int x33, .int x34, .int x35, .int x36, .int x37, .int x38, .int x39, .int x40, .ref h15, .ref h16, .int x41, .int x42, .int x43, .int x44, .int x45, .int x46, .int x47, .int x48, .ref h17, .int x49, .int x50, .int x51, .int x52, .int x53])), (h2, .inl (y0, 16, .inl nf16)), (h3, .inl (y1, 3, .inl f1)), (h4, .inl (y2, 3, .inl f2)), (h1, .inl (y3, 65536, .inl f3))]) hP hD rfl
  refine lv_aload_n hx hb dX12_reset_91 rfl (lv_at hl 1 rfl) ?_
  refine lv_iconst (v := 0) hx hb dX12_reset_92 (by decide) ?_
  refine va_put (D := (dC, dI)) (ci := 12) (v := .int 0) (ty := .int) (C := RX12) (T := TX12) (N := 72) hx hb hG inGX12 tyX12 tyX12_ok nmX12 hown hK hP hD hS 0 rfl rfl 16 (by decide) (hG _ wd_1323) (fun _ h9 => h9) rfl (by decide +kernel) rfl rfl (Nat.le_of_ble_eq_true rfl) dX12_reset_93 (fun H locs hP hD hS => ?_)
  obtain ⟨hP, hD⟩ := nv_eq (ws' := [(h0, .inr (12, .int 0 :: .ref h1 :: .ref h2 :: .int 0 :: .int 0 :: .int 0 :: .int 0 :: .int 0 :: .int 0 :: .int 0 :: .int 0 :: .int 0 :: [.int 0, .int 0, .int 0, .int 0, .int 0, .int x15, .ref h3, .ref h4, .ref h5, .ref h6, .int x16, .int x17, .int x18, .int x19, .int x20, .int x21, .int x22, .int x23, .ref h7, .int x24, .int x25, .int x26, .int x27, .ref h8, .ref h9, .int x28, .int x29, .long z0, .int x30, .int x31, .ref h10, .ref h11, .ref h12, .ref h13, .ref h14, .int x32, .int x33, .int x34, .int x35, .int x36, .int x37, .int x38, .int x39, .int x40, .ref h15, .ref h16, .int x41, .int x42, .int x43, .int x44, .int x45, .int x46, .int x47, .int x48, .ref h17, .int x49, .int x50, .int x51, .int x52, .int x53])), (h2, .inl (y0, 16, .inl nf16)), (h3, .inl (y1, 3, .inl f1)), (h4, .inl (y2, 3, .inl f2)), (h1, .inl (y3, 65536, .inl f3))]) hP hD rfl
  refine lv_aload_n hx hb dX12_reset_96 rfl (lv_at hl 1 rfl) ?_
  refine lv_iconst (v := 0) hx hb dX12_reset_97 (by decide) ?_
  refine va_put (D := (dC, dI)) (ci := 12) (v := .int 0) (ty := .boolean) (C := RX12) (T := TX12) (N := 72) hx hb hG inGX12 tyX12 tyX12_ok nmX12 hown hK hP hD hS 0 rfl rfl 17 (by decide) (hG _ wd_1324) (fun _ h9 => h9) rfl (by decide +kernel) rfl rfl (Nat.le_of_ble_eq_true rfl) dX12_reset_98 (fun H locs hP hD hS => ?_)
  obtain ⟨hP, hD⟩ := nv_eq (ws' := [(h0, .inr (12, .int 0 :: .ref h1 :: .ref h2 :: .int 0 :: .int 0 :: .int 0 :: .int 0 :: .int 0 :: .int 0 :: .int 0 :: .int 0 :: .int 0 :: [.int 0, .int 0, .int 0, .int 0, .int 0, .int 0, .ref h3, .ref h4, .ref h5, .ref h6, .int x16, .int x17, .int x18, .int x19, .int x20, .int x21, .int x22, .int x23, .ref h7, .int x24, .int x25, .int x26, .int x27, .ref h8, .ref h9, .int x28, .int x29, .long z0, .int x30, .int x31, .ref h10, .ref h11, .ref h12, .ref h13, .ref h14, .int x32, .int x33, .int x34, .int x35, .int x36, .int x37, .int x38, .int x39, .int x40, .ref h15, .ref h16, .int x41, .int x42, .int x43, .int x44, .int x45, .int x46, .int x47, .int x48, .ref h17, .int x49, .int x50, .int x51, .int x52, .int x53])), (h2, .inl (y0, 16, .inl nf16)), (h3, .inl (y1, 3, .inl f1)), (h4, .inl (y2, 3, .inl f2)), (h1, .inl (y3, 65536, .inl f3))]) hP hD rfl
  refine lv_iconst (v := 0) hx hb dX12_reset_101 (by decide) ?_
  refine lv_istore_n (lv' := [(1, .int 0), (0, .ref h0)]) hx hb dX12_reset_102 rfl hl (by decide) rfl (fun ls hl => ?_)
  refine lv_iload_n hx hb dX12_reset_103 rfl (lv_at hl 0 rfl) ?_
  refine lv_iconst (v := 3) hx hb dX12_reset_104 (by decide) ?_
  refine lv_icmp_ge (tgt := 128) hx hb dX12_reset_105 (by decide) (fun c => absurd c (by decide)) (fun _ => ?_)
  refine lv_aload_n hx hb dX12_reset_108 rfl (lv_at hl 1 rfl) ?_
  refine va_get (D := (dC, dI)) (ci := 12) (v := .ref h3) (C := RX12) (T := TX12) (N := 72) hx hb hG inGX12 hown hK hP 0 rfl rfl 18 (by decide) (hG _ wd_1325) (fun _ h9 => h9) rfl dX12_reset_109 ?_
  refine lv_iload_n hx hb dX12_reset_112 rfl (lv_at hl 0 rfl) ?_
  refine lv_iconst (v := 0) hx hb dX12_reset_113 (by decide) ?_
  refine va_iast hx hb hK hP hD hS 2 1 rfl rfl (iv_in (by decide : iv 0 0 0) (by decide) (by decide) : vp_in 0 3) dX12_reset_114 (fun H locs hP hD hS => ?_)
  obtain ⟨nf17, enf17⟩ : ∃ z, z = upd f1 (0 : Int32).toNatClampNeg 0 := ⟨_, rfl⟩
  obtain ⟨hP, hD⟩ := nv_eq (ws' := [(h0, .inr (12, .int 0 :: .ref h1 :: .ref h2 :: .int 0 :: .int 0 :: .int 0 :: .int 0 :: .int 0 :: .int 0 :: .int 0 :: .int 0 :: .int 0 :: [.int 0, .int 0, .int 0, .int 0, .int 0, .int 0, .ref h3, .ref h4, .ref h5, .ref h6, .int x16, .int x17, .int x18, .int x19, .int x20, .int x21, .int x22, .int x23, .ref h7, .int x24, .int x25, .int x26, .int x27, .ref h8, .ref h9, .int x28, .int x29, .long z0, .int x30, .int x31, .ref h10, .ref h11, .ref h12, .ref h13, .ref h14, .int x32, .int x33, .int x34, .int x35, .int x36, .int x37, .int x38, .int x39, .int x40, .ref h15, .ref h16, .int x41, .int x42, .int x43, .int x44, .int x45, .int x46, .int x47, .int x48, .ref h17, .int x49, .int x50, .int x51, .int x52, .int x53])), (h2, .inl (y0, 16, .inl nf16)), (h3, .inl (y1, 3, .inl nf17)), (h4, .inl (y2, 3, .inl f2)), (h1, .inl (y3, 65536, .inl f3))]) hP hD (by subst enf17; rfl)
  refine lv_aload_n hx hb dX12_reset_115 rfl (lv_at hl 1 rfl) ?_
  refine va_get (D := (dC, dI)) (ci := 12) (v := .ref h4) (C := RX12) (T := TX12) (N := 72) hx hb hG inGX12 hown hK hP 0 rfl rfl 19 (by decide) (hG _ wd_1326) (fun _ h9 => h9) rfl dX12_reset_116 ?_
  refine lv_iload_n hx hb dX12_reset_119 rfl (lv_at hl 0 rfl) ?_
  refine lv_iconst (v := 0) hx hb dX12_reset_120 (by decide) ?_
  refine va_iast hx hb hK hP hD hS 3 2 rfl rfl (iv_in (by decide : iv 0 0 0) (by decide) (by decide) : vp_in 0 3) dX12_reset_121 (fun H locs hP hD hS => ?_)
  obtain ⟨nf18, enf18⟩ : ∃ z, z = upd f2 (0 : Int32).toNatClampNeg 0 := ⟨_, rfl⟩
  obtain ⟨hP, hD⟩ := nv_eq (ws' := [(h0, .inr (12, .int 0 :: .ref h1 :: .ref h2 :: .int 0 :: .int 0 :: .int 0 :: .int 0 :: .int 0 :: .int 0 :: .int 0 :: .int 0 :: .int 0 :: [.int 0, .int 0, .int 0, .int 0, .int 0, .int 0, .ref h3, .ref h4, .ref h5, .ref h6, .int x16, .int x17, .int x18, .int x19, .int x20, .int x21, .int x22, .int x23, .ref h7, .int x24, .int x25, .int x26, .int x27, .ref h8, .ref h9, .int x28, .int x29, .long z0, .int x30, .int x31, .ref h10, .ref h11, .ref h12, .ref h13, .ref h14, .int x32, .int x33, .int x34, .int x35, .int x36, .int x37, .int x38, .int x39, .int x40, .ref h15, .ref h16, .int x41, .int x42, .int x43, .int x44, .int x45, .int x46, .int x47, .int x48, .ref h17, .int x49, .int x50, .int x51, .int x52, .int x53])), (h2, .inl (y0, 16, .inl nf16)), (h3, .inl (y1, 3, .inl nf17)), (h4, .inl (y2, 3, .inl nf18)), (h1, .inl (y3, 65536, .inl f3))]) hP hD (by subst enf18; rfl)
  refine lv_iinc (v := 1) (lv' := [(1, .int 1), (0, .ref h0)]) hx hb dX12_reset_122 hl (k := 0) rfl (by decide) (by decide) rfl (fun ls hl => ?_)
  refine lv_goto (tgt := 103) hx hb dX12_reset_125 (by decide) ?_
  refine lv_iload_n hx hb dX12_reset_103 rfl (lv_at hl 0 rfl) ?_
  refine lv_iconst (v := 3) hx hb dX12_reset_104 (by decide) ?_
  refine lv_icmp_ge (tgt := 128) hx hb dX12_reset_105 (by decide) (fun c => absurd c (by decide)) (fun _ => ?_)
  refine lv_aload_n hx hb dX12_reset_108 rfl (lv_at hl 1 rfl) ?_
  refine va_get (D := (dC, dI)) (ci := 12) (v := .ref h3) (C := RX12) (T := TX12) (N := 72) hx hb hG inGX12 hown hK hP 0 rfl rfl 18 (by decide) (hG _ wd_1325) (fun _ h9 => h9) rfl dX12_reset_109 ?_
  refine lv_iload_n hx hb dX12_reset_112 rfl (lv_at hl 0 rfl) ?_
  refine lv_iconst (v := 0) hx hb dX12_reset_113 (by decide) ?_
  refine va_iast hx hb hK hP hD hS 2 1 rfl rfl (iv_in (by decide : iv 1 1 1) (by decide) (by decide) : vp_in 1 3) dX12_reset_114 (fun H locs hP hD hS => ?_)
  obtain ⟨nf19, enf19⟩ : ∃ z, z = upd nf17 (1 : Int32).toNatClampNeg 0 := ⟨_, rfl⟩
  obtain ⟨hP, hD⟩ := nv_eq (ws' := [(h0, .inr (12, .int 0 :: .ref h1 :: .ref h2 :: .int 0 :: .int 0 :: .int 0 :: .int 0 :: .int 0 :: .int 0 :: .int 0 :: .int 0 :: .int 0 :: [.int 0, .int 0, .int 0, .int 0, .int 0, .int 0, .ref h3, .ref h4, .ref h5, .ref h6, .int x16, .int x17, .int x18, .int x19, .int x20, .int x21, .int x22, .int x23, .ref h7, .int x24, .int x25, .int x26, .int x27, .ref h8, .ref h9, .int x28, .int x29, .long z0, .int x30, .int x31, .ref h10, .ref h11, .ref h12, .ref h13, .ref h14, .int x32, .int x33, .int x34, .int x35, .int x36, .int x37, .int x38, .int x39, .int x40, .ref h15, .ref h16, .int x41, .int x42, .int x43, .int x44, .int x45, .int x46, .int x47, .int x48, .ref h17, .int x49, .int x50, .int x51, .int x52, .int x53])), (h2, .inl (y0, 16, .inl nf16)), (h3, .inl (y1, 3, .inl nf19)), (h4, .inl (y2, 3, .inl nf18)), (h1, .inl (y3, 65536, .inl f3))]) hP hD (by subst enf19; rfl)
  refine lv_aload_n hx hb dX12_reset_115 rfl (lv_at hl 1 rfl) ?_
  refine va_get (D := (dC, dI)) (ci := 12) (v := .ref h4) (C := RX12) (T := TX12) (N := 72) hx hb hG inGX12 hown hK hP 0 rfl rfl 19 (by decide) (hG _ wd_1326) (fun _ h9 => h9) rfl dX12_reset_116 ?_
  refine lv_iload_n hx hb dX12_reset_119 rfl (lv_at hl 0 rfl) ?_
  refine lv_iconst (v := 0) hx hb dX12_reset_120 (by decide) ?_
  refine va_iast hx hb hK hP hD hS 3 2 rfl rfl (iv_in (by decide : iv 1 1 1) (by decide) (by decide) : vp_in 1 3) dX12_reset_121 (fun H locs hP hD hS => ?_)
  obtain ⟨nf20, enf20⟩ : ∃ z, z = upd nf18 (1 : Int32).toNatClampNeg 0 := ⟨_, rfl⟩
  obtain ⟨hP, hD⟩ := nv_eq (ws' := [(h0, .inr (12, .int 0 :: .ref h1 :: .ref h2 :: .int 0 :: .int 0 :: .int 0 :: .int 0 :: .int 0 :: .int 0 :: .int 0 :: .int 0 :: .int 0 :: [.int 0, .int 0, .int 0, .int 0, .int 0, .int 0, .ref h3, .ref h4, .ref h5, .ref h6, .int x16, .int x17, .int x18, .int x19, .int x20, .int x21, .int x22, .int x23, .ref h7, .int x24, .int x25, .int x26, .int x27, .ref h8, .ref h9, .int x28, .int x29, .long z0, .int x30, .int x31, .ref h10, .ref h11, .ref h12, .ref h13, .ref h14, .int x32, .int x33, .int x34, .int x35, .int x36, .int x37, .int x38, .int x39, .int x40, .ref h15, .ref h16, .int x41, .int x42, .int x43, .int x44, .int x45, .int x46, .int x47, .int x48, .ref h17, .int x49, .int x50, .int x51, .int x52, .int x53])), (h2, .inl (y0, 16, .inl nf16)), (h3, .inl (y1, 3, .inl nf19)), (h4, .inl (y2, 3, .inl nf20)), (h1, .inl (y3, 65536, .inl f3))]) hP hD (by subst enf20; rfl)
  refine lv_iinc (v := 2) (lv' := [(1, .int 2), (0, .ref h0)]) hx hb dX12_reset_122 hl (k := 0) rfl (by decide) (by decide) rfl (fun ls hl => ?_)
  refine lv_goto (tgt := 103) hx hb dX12_reset_125 (by decide) ?_
  refine lv_iload_n hx hb dX12_reset_103 rfl (lv_at hl 0 rfl) ?_
  refine lv_iconst (v := 3) hx hb dX12_reset_104 (by decide) ?_
  refine lv_icmp_ge (tgt := 128) hx hb dX12_reset_105 (by decide) (fun c => absurd c (by decide)) (fun _ => ?_)
  refine lv_aload_n hx hb dX12_reset_108 rfl (lv_at hl 1 rfl) ?_
  refine va_get (D := (dC, dI)) (ci := 12) (v := .ref h3) (C := RX12) (T := TX12) (N := 72) hx hb hG inGX12 hown hK hP 0 rfl rfl 18 (by decide) (hG _ wd_1325) (fun _ h9 => h9) rfl dX12_reset_109 ?_
  refine lv_iload_n hx hb dX12_reset_112 rfl (lv_at hl 0 rfl) ?_
  refine lv_iconst (v := 0) hx hb dX12_reset_113 (by decide) ?_
  refine va_iast hx hb hK hP hD hS 2 1 rfl rfl (iv_in (by decide : iv 2 2 2) (by decide) (by decide) : vp_in 2 3) dX12_reset_114 (fun H locs hP hD hS => ?_)
  obtain ⟨nf21, enf21⟩ : ∃ z, z = upd nf19 (2 : Int32).toNatClampNeg 0 := ⟨_, rfl⟩
  obtain ⟨hP, hD⟩ := nv_eq (ws' := [(h0, .inr (12, .int 0 :: .ref h1 :: .ref h2 :: .int 0 :: .int 0 :: .int 0 :: .int 0 :: .int 0 :: .int 0 :: .int 0 :: .int 0 :: .int 0 :: [.int 0, .int 0, .int 0, .int 0, .int 0, .int 0, .ref h3, .ref h4, .ref h5, .ref h6, .int x16, .int x17, .int x18, .int x19, .int x20, .int x21, .int x22, .int x23, .ref h7, .int x24, .int x25, .int x26, .int x27, .ref h8, .ref h9, .int x28, .int x29, .long z0, .int x30, .int x31, .ref h10, .ref h11, .ref h12, .ref h13, .ref h14, .int x32, .int x33, .int x34, .int x35, .int x36, .int x37, .int x38, .int x39, .int x40, .ref h15, .ref h16, .int x41, .int x42, .int x43, .int x44, .int x45, .int x46, .int x47, .int x48, .ref h17, .int x49, .int x50, .int x51, .int x52, .int x53])), (h2, .inl (y0, 16, .inl nf16)), (h3, .inl (y1, 3, .inl nf21)), (h4, .inl (y2, 3, .inl nf20)), (h1, .inl (y3, 65536, .inl f3))]) hP hD (by subst enf21; rfl)
  refine lv_aload_n hx hb dX12_reset_115 rfl (lv_at hl 1 rfl) ?_
  refine va_get (D := (dC, dI)) (ci := 12) (v := .ref h4) (C := RX12) (T := TX12) (N := 72) hx hb hG inGX12 hown hK hP 0 rfl rfl 19 (by decide) (hG _ wd_1326) (fun _ h9 => h9) rfl dX12_reset_116 ?_
  refine lv_iload_n hx hb dX12_reset_119 rfl (lv_at hl 0 rfl) ?_
  refine lv_iconst (v := 0) hx hb dX12_reset_120 (by decide) ?_
  refine va_iast hx hb hK hP hD hS 3 2 rfl rfl (iv_in (by decide : iv 2 2 2) (by decide) (by decide) : vp_in 2 3) dX12_reset_121 (fun H locs hP hD hS => ?_)
  obtain ⟨nf22, enf22⟩ : ∃ z, z = upd nf20 (2 : Int32).toNatClampNeg 0 := ⟨_, rfl⟩
  obtain ⟨hP, hD⟩ := nv_eq (ws' := [(h0, .inr (12, .int 0 :: .ref h1 :: .ref h2 :: .int 0 :: .int 0 :: .int 0 :: .int 0 :: .int 0 :: .int 0 :: .int 0 :: .int 0 :: .int 0 :: [.int 0, .int 0, .int 0, .int 0, .int 0, .int 0, .ref h3, .ref h4, .ref h5, .ref h6, .int x16, .int x17, .int x18, .int x19, .int x20, .int x21, .int x22, .int x23, .ref h7, .int x24, .int x25, .int x26, .int x27, .ref h8, .ref h9, .int x28, .int x29, .long z0, .int x30, .int x31, .ref h10, .ref h11, .ref h12, .ref h13, .ref h14, .int x32, .int x33, .int x34, .int x35, .int x36, .int x37, .int x38, .int x39, .int x40, .ref h15, .ref h16, .int x41, .int x42, .int x43, .int x44, .int x45, .int x46, .int x47, .int x48, .ref h17, .int x49, .int x50, .int x51, .int x52, .int x53])), (h2, .inl (y0, 16, .inl nf16)), (h3, .inl (y1, 3, .inl nf21)), (h4, .inl (y2, 3, .inl nf22)), (h1, .inl (y3, 65536, .inl f3))]) hP hD (by subst enf22; rfl)
  refine lv_iinc (v := 3) (lv' := [(1, .int 3), (0, .ref h0)]) hx hb dX12_reset_122 hl (k := 0) rfl (by decide) (by decide) rfl (fun ls hl => ?_)
  refine lv_goto (tgt := 103) hx hb dX12_reset_125 (by decide) ?_
  refine lv_iload_n hx hb dX12_reset_103 rfl (lv_at hl 0 rfl) ?_
  refine lv_iconst (v := 3) hx hb dX12_reset_104 (by decide) ?_
  refine lv_icmp_ge (tgt := 128) hx hb dX12_reset_105 (by decide) (fun _ => ?_) (fun c => absurd (by decide) c)
  refine lv_aload_n hx hb dX12_reset_128 rfl (lv_at hl 1 rfl) ?_
  refine lv_iconst (v := 0) hx hb dX12_reset_129 (by decide) ?_
  refine va_put (D := (dC, dI)) (ci := 12) (v := .int 0) (ty := .int) (C := RX12) (T := TX12) (N := 72) hx hb hG inGX12 tyX12 tyX12_ok nmX12 hown hK hP hD hS 0 rfl rfl 22 (by decide) (hG _ wd_1329) (fun _ h9 => h9) rfl (by decide +kernel) rfl rfl (Nat.le_of_ble_eq_true rfl) dX12_reset_130 (fun H locs hP hD hS => ?_)
  obtain ⟨hP, hD⟩ := nv_eq (ws' := [(h0, .inr (12, .int 0 :: .ref h1 :: .ref h2 :: .int 0 :: .int 0 :: .int 0 :: .int 0 :: .int 0 :: .int 0 :: .int 0 :: .int 0 :: .int 0 :: [.int 0, .int 0, .int 0, .int 0, .int 0, .int 0, .ref h3, .ref h4, .ref h5, .ref h6, .int 0, .int x17, .int x18, .int x19, .int x20, .int x21, .int x22, .int x23, .ref h7, .int x24, .int x25, .int x26, .int x27, .ref h8, .ref h9, .int x28, .int x29, .long z0, .int x30, .int x31, .ref h10, .ref h11, .ref h12, .ref h13, .ref h14, .int x32, .int x33, .int x34, .int x35, .int x36, .int x37, .int x38, .int x39, .int x40, .ref h15, .ref h16, .int x41, .int x42, .int x43, .int x44, .int x45, .int x46, .int x47, .int x48, .ref h17, .int x49, .int x50, .int x51, .int x52, .int x53])), (h2, .inl (y0, 16, .inl nf16)), (h3, .inl (y1, 3, .inl nf21)), (h4, .inl (y2, 3, .inl nf22)), (h1, .inl (y3, 65536, .inl f3))]) hP hD rfl
  refine lv_aload_n hx hb dX12_reset_133 rfl (lv_at hl 1 rfl) ?_
  refine lv_iconst (v := 0) hx hb dX12_reset_134 (by decide) ?_
  refine va_put (D := (dC, dI)) (ci := 12) (v := .int 0) (ty := .int) (C := RX12) (T := TX12) (N := 72) hx hb hG inGX12 tyX12 tyX12_ok nmX12 hown hK hP hD hS 0 rfl rfl 23 (by decide) (hG _ wd_1330) (fun _ h9 => h9) rfl (by decide +kernel) rfl rfl (Nat.le_of_ble_eq_true rfl) dX12_reset_135 (fun H locs hP hD hS => ?_)
  obtain ⟨hP, hD⟩ := nv_eq (ws' := [(h0, .inr (12, .int 0 :: .ref h1 :: .ref h2 :: .int 0 :: .int 0 :: .int 0 :: .int 0 :: .int 0 :: .int 0 :: .int 0 :: .int 0 :: .int 0 :: [.int 0, .int 0, .int 0, .int 0, .int 0, .int 0, .ref h3, .ref h4, .ref h5, .ref h6, .int 0, .int 0, .int x18, .int x19, .int x20, .int x21, .int x22, .int x23, .ref h7, .int x24, .int x25, .int x26, .int x27, .ref h8, .ref h9, .int x28, .int x29, .long z0, .int x30, .int x31, .ref h10, .ref h11, .ref h12, .ref h13, .ref h14, .int x32, .int x33, .int x34, .int x35, .int x36, .int x37, .int x38, .int x39, .int x40, .ref h15, .ref h16, .int x41, .int x42, .int x43, .int x44, .int x45, .int x46, .int x47, .int x48, .ref h17, .int x49, .int x50, .int x51, .int x52, .int x53])), (h2, .inl (y0, 16, .inl nf16)), (h3, .inl (y1, 3, .inl nf21)), (h4, .inl (y2, 3, .inl nf22)), (h1, .inl (y3, 65536, .inl f3))]) hP hD rfl
  refine lv_aload_n hx hb dX12_reset_138 rfl (lv_at hl 1 rfl) ?_
  refine lv_iconst (v := 0) hx hb dX12_reset_139 (by decide) ?_
  refine va_put (D := (dC, dI)) (ci := 12) (v := .int 0) (ty := .int) (C := RX12) (T := TX12) (N := 72) hx hb hG inGX12 tyX12 tyX12_ok nmX12 hown hK hP hD hS 0 rfl rfl 25 (by decide) (hG _ wd_1332) (fun _ h9 => h9) rfl (by decide +kernel) rfl rfl (Nat.le_of_ble_eq_true rfl) dX12_reset_140 (fun H locs hP hD hS => ?_)
  obtain ⟨hP, hD⟩ := nv_eq (ws' := [(h0, .inr (12, .int 0 :: .ref h1 :: .ref h2 :: .int 0 :: .int 0 :: .int 0 :: .int 0 :: .int 0 :: .int 0 :: .int 0 :: .int 0 :: .int 0 :: [.int 0, .int 0, .int 0, .int 0, .int 0, .int 0, .ref h3, .ref h4, .ref h5, .ref h6, .int 0, .int 0, .int x18, .int 0, .int x20, .int x21, .int x22, .int x23, .ref h7, .int x24, .int x25, .int x26, .int x27, .ref h8, .ref h9, .int x28, .int x29, .long z0, .int x30, .int x31, .ref h10, .ref h11, .ref h12, .ref h13, .ref h14, .int x32, .int x33, .int x34, .int x35, .int x36, .int x37, .int x38, .int x39, .int x40, .ref h15, .ref h16, .int x41, .int x42, .int x43, .int x44, .int x45, .int x46, .int x47, .int x48, .ref h17, .int x49, .int x50, .int x51, .int x52, .int x53])), (h2, .inl (y0, 16, .inl nf16)), (h3, .inl (y1, 3, .inl nf21)), (h4, .inl (y2, 3, .inl nf22)), (h1, .inl (y3, 65536, .inl f3))]) hP hD rfl
  refine lv_aload_n hx hb dX12_reset_143 rfl (lv_at hl 1 rfl) ?_
  refine lv_iconst (v := 0) hx hb dX12_reset_144 (by decide) ?_
  refine va_put (D := (dC, dI)) (ci := 12) (v := .int 0) (ty := .int) (C := RX12) (T := TX12) (N := 72) hx hb hG inGX12 tyX12 tyX12_ok nmX12 hown hK hP hD hS 0 rfl rfl 26 (by decide) (hG _ wd_1333) (fun _ h9 => h9) rfl (by decide +kernel) rfl rfl (Nat.le_of_ble_eq_true rfl) dX12_reset_145 (fun H locs hP hD hS => ?_)
  obtain ⟨hP, hD⟩ := nv_eq (ws' := [(h0, .inr (12, .int 0 :: .ref h1 :: .ref h2 :: .int 0 :: .int 0 :: .int 0 :: .int 0 :: .int 0 :: .int 0 :: .int 0 :: .int 0 :: .int 0 :: [.int 0, .int 0, .int 0, .int 0, .int 0, .int 0, .ref h3, .ref h4, .ref h5, .ref h6, .int 0, .int 0, .int x18, .int 0, .int 0, .int x21, .int x22, .int x23, .ref h7, .int x24, .int x25, .int x26, .int x27, .ref h8, .ref h9, .int x28, .int x29, .long z0, .int x30, .int x31, .ref h10, .ref h11, .ref h12, .ref h13, .ref h14, .int x32, .int x33, .int x34, .int x35, .int x36, .int x37, .int x38, .int x39, .int x40, .ref h15, .ref h16, .int x41, .int x42, .int x43, .int x44, .int x45, .int x46, .int x47, .int x48, .ref h17, .int x49, .int x50, .int x51, .int x52, .int x53])), (h2, .inl (y0, 16, .inl nf16)), (h3, .inl (y1, 3, .inl nf21)), (h4, .inl (y2, 3, .inl nf22)), (h1, .inl (y3, 65536, .inl f3))]) hP hD rfl
  refine lv_aload_n hx hb dX12_reset_148 rfl (lv_at hl 1 rfl) ?_
  refine lv_iconst (v := 0) hx hb dX12_reset_149 (by decide) ?_
  refine lv_aload_n hx hb dX12_reset_150 rfl (lv_at hl 1 rfl) ?_
  refine lv_ldc hx hb hown (hG _ wd_1528) dX12_reset_151 ?_
  obtain ⟨hPc, hDc, hFc⟩ := nv_sub3 (wc := [(h0, .inr (12, .int 0 :: .ref h1 :: .ref h2 :: .int 0 :: .int 0 :: .int 0 :: .int 0 :: .int 0 :: .int 0 :: .int 0 :: .int 0 :: .int 0 :: [.int 0, .int 0, .int 0, .int 0, .int 0, .int 0, .ref h3, .ref h4, .ref h5, .ref h6, .int 0, .int 0, .int x18, .int 0, .int 0, .int x21, .int x22, .int x23, .ref h7, .int x24, .int x25, .int x26, .int x27, .ref h8, .ref h9, .int x28, .int x29, .long z0, .int x30, .int x31, .ref h10, .ref h11, .ref h12, .ref h13, .ref h14, .int x32, .int x33, .int x34, .int x35, .int x36, .int x37, .int x38, .int x39, .int x40, .ref h15, .ref h16, .int x41, .int x42, .int x43, .int x44, .int x45, .int x46, .int x47, .int x48, .ref h17, .int x49, .int x50, .int x51, .int x52, .int x53])), (h3, .inl (y1, 3, .inl nf21)), (h4, .inl (y2, 3, .inl nf22)), (h1, .inl (y3, 65536, .inl f3))]) hP hD hS hA [0, 2, 3, 4] (by decide) rfl
  have hKc := hK.sub (tys' := [(y1, .int), (y2, .int), (y3, .byte)]) [1, 2, 3] rfl
  refine va_calli (va_runV (As := [.int 65534]) (rest := [.int 0, .ref h0]) ⟨hx, hb, hml, hown, hG⟩ (cX12_peekWord_1 l dC dI h0 h1 h2 h3 h4 h5 h6 h7 h8 h9 h10 h11 h12 h13 h14 h15 h16 h17 y1 y2 y3 H.size 65534 0 0 0 0 0 0 0 0 0 0 0 0 0 0 0 0 0 0 x18 0 0 x21 x22 x23 x24 x25 x26 x27 x28 x29 x30 x31 x32 x33 x34 x35 x36 x37 x38 x39 x40 x41 x42 x43 x44 x45 x46 x47 x48 x49 x50 x51 x52 x53 z0 nf21 nf22 f3 (iv_w (by decide : iv 0 0 0) (by decide) (by decide)) (iv_w (by decide : iv 0 0 0) (by decide) (by decide)) ix21 ix22 ix23 ix24 ix25 ix26 ix27 ix31 ix32 ix33 ix34 ix35 ix36 ix41 ix42 ix46 ix47 ix49 ix53 if3) (cwV 1 hG (gV wd_1529 wd_1531 wp_65 wd_17 wd_1532) rfl rfl rfl (by decide +kernel) ⟨Nat.le_of_ble_eq_true rfl, Nat.le_of_ble_eq_true rfl⟩) ⟨fun a U g mk q => by obtain ⟨q0, q1, qP, qK, qD⟩ := q; exact ⟨q0, q1, qP, va_K.moved (u := U) (U := U.calling g mk a) (Vm.Alike.refl U.vm) qK, qD⟩, va_recv hKc hPc (ci := 12) (q0 := 0) rfl rfl, fun U hU hW => ⟨rfl, by rw [hU], by rw [hU]; exact hPc, va_K.moved hW.alike hKc, hDc.weaken (fun _ _ _ _ => trivial)⟩⟩ rfl rfl hl.1 rfl (lv_room (Nat.le_of_ble_eq_true rfl)) dX12_reset_153 ⟨by decide, by decide⟩) hS (fun q _ h => hFc q h) hFc (fun r23 u24 t H1 locs ht hvm hw hB hz1 hk1 hS => ?_)
  obtain ⟨hP1, hK1, hD1⟩ := hB
  rw [ht] at hP1
  have hK1 := va_K.moved hvm.symm hK1
  obtain ⟨hP, hD⟩ := nv_join (wf := [(h2, .inl (y0, 16, .inl nf16)), (h0, .inr (12, .int 0 :: .ref h1 :: .ref h2 :: .int 0 :: .int 0 :: .int 0 :: .int 0 :: .int 0 :: .int 0 :: .int 0 :: .int 0 :: .int 0 :: [.int 0, .int 0, .int 0, .int 0, .int 0, .int 0, .ref h3, .ref h4, .ref h5, .ref h6, .int 0, .int 0, .int x18, .int 0, .int 0, .int x21, .int x22, .int x23, .ref h7, .int x24, .int x25, .int x26, .int x27, .ref h8, .ref h9, .int x28, .int x29, .long z0, .int x30, .int x31, .ref h10, .ref h11, .ref h12, .ref h13, .ref h14, .int x32, .int x33, .int x34, .int x35, .int x36, .int x37, .int x38, .int x39, .int x40, .ref h15, .ref h16, .int x41, .int x42, .int x43, .int x44, .int x45, .int x46, .int x47, .int x48, .ref h17, .int x49, .int x50, .int x51, .int x52, .int x53])), (h3, .inl (y1, 3, .inl nf21)), (h4, .inl (y2, 3, .inl nf22)), (h1, .inl (y3, 65536, .inl f3))]) hP hD [0, 2, 3, 4] [1] rfl rfl (by decide) (by decide) hk1 hFc hP1 hD1 rfl
  have hK := (hK.sub (tys' := [(y0, .int)]) [0] rfl).app hK1
  generalize H1 = H at hP hS ⊢
  have hK : va_K (dC, dI) vwCl [(y0, .int), (y1, .int), (y2, .int), (y3, .byte)] s := hK
  clear hKc hPc hDc hFc hP1 hD1 hK1 hk1 hz1 hw
  obtain ⟨hPc, hDc, hFc⟩ := nv_sub3 (wc := [(h0, .inr (12, .int 0 :: .ref h1 :: .ref h2 :: .int 0 :: .int 0 :: .int 0 :: .int 0 :: .int 0 :: .int 0 :: .int 0 :: .int 0 :: .int 0 :: [.int 0, .int 0, .int 0, .int 0, .int 0, .int 0, .ref h3, .ref h4, .ref h5, .ref h6, .int 0, .int 0, .int x18, .int 0, .int 0, .int x21, .int x22, .int x23, .ref h7, .int x24, .int x25, .int x26, .int x27, .ref h8, .ref h9, .int x28, .int x29, .long z0, .int x30, .int x31, .ref h10, .ref h11, .ref h12, .ref h13, .ref h14, .int x32, .int x33, .int x34, .int x35, .int x36, .int x37, .int x38, .int x39, .int x40, .ref h15, .ref h16, .int x41, .int x42, .int x43, .int x44, .int x45, .int x46, .int x47, .int x48, .ref h17, .int x49, .int x50, .int x51, .int x52, .int x53])), (h2, .inl (y0, 16, .inl nf16))]) hP hD hS hA [1, 0] (by decide) rfl
  have hKc := hK.sub (tys' := [(y0, .int)]) [0] rfl
  refine va_callv (va_runV (As := [.int 0, .int r23]) (rest := []) ⟨hx, hb, hml, hown, hG⟩ (cX12_write_1 l dC dI h0 h1 h2 h3 h4 h5 h6 h7 h8 h9 h10 h11 h12 h13 h14 h15 h16 h17 y0 H.size 0 r23 0 0 0 0 0 0 0 0 0 0 0 0 0 0 0 0 0 0 x18 0 0 x21 x22 x23 x24 x25 x26 x27 x28 x29 x30 x31 x32 x33 x34 x35 x36 x37 x38 x39 x40 x41 x42 x43 x44 x45 x46 x47 x48 x49 x50 x51 x52 x53 z0 nf16 (iv_w (by decide : iv 0 0 0) (by decide) (by decide)) (iv_w (by decide : iv 0 0 0) (by decide) (by decide)) (iv_w (by decide : iv 0 0 0) (by decide) (by decide)) ix21 ix22 ix23 ix24 ix25 ix26 ix27 ix31 ix32 ix33 ix34 ix35 ix36 ix41 ix42 ix46 ix47 ix49 ix53 inf16) (cwV 2 hG (gV wd_1549 wd_1551 wp_70 wd_17 wd_1552) rfl rfl rfl (by decide +kernel) ⟨Nat.le_of_ble_eq_true rfl, Nat.le_of_ble_eq_true rfl⟩) ⟨fun a U g mk q => by obtain ⟨q0, q1, qP, qK, qD⟩ := q; exact ⟨q0, q1, qP, va_K.moved (u := U) (U := U.calling g mk a) (Vm.Alike.refl U.vm) qK, qD⟩, va_recv hKc hPc (ci := 12) (q0 := 0) rfl rfl, fun U hU hW => ⟨rfl, by rw [hU], by rw [hU]; exact hPc, va_K.moved hW.alike hKc, hDc.weaken (fun _ _ _ _ => trivial)⟩⟩ rfl rfl hl.1 rfl (lv_room (Nat.le_of_ble_eq_true rfl)) dX12_reset_156 ⟨by decide, by decide⟩) hS (fun q _ h => hFc q h) hFc (fun u26 t H1 locs ht hvm hw hB hz1 hk1 hS => ?_)
  obtain ⟨u26_0, rfl⟩ : ∃ z, z = u26 := ⟨_, rfl⟩
  have hw : (∀ j, iv (u26_0 j) 0 65535) ∧ True := hw
  obtain ⟨iu26_0, -⟩ := hw
  obtain ⟨hP1, hK1, hD1⟩ := hB
  rw [ht] at hP1
  have hK1 := va_K.moved hvm.symm hK1
  obtain ⟨hP, hD⟩ := nv_join (wf := [(h3, .inl (y1, 3, .inl nf21)), (h4, .inl (y2, 3, .inl nf22)), (h1, .inl (y3, 65536, .inl f3)), (h0, .inr (12, .int 0 :: .ref h1 :: .ref h2 :: .int 0 :: .int 0 :: .int 0 :: .int 0 :: .int 0 :: .int 0 :: .int 0 :: .int 0 :: .int 0 :: [.int 0, .int 0, .int 0, .int 0, .int 0, .int 0, .ref h3, .ref h4, .ref h5, .ref h6, .int 0, .int 0, .int x18, .int 0, .int 0, .int x21, .int x22, .int x23, .ref h7, .int x24, .int x25, .int x26, .int x27, .ref h8, .ref h9, .int x28, .int x29, .long z0, .int x30, .int x31, .ref h10, .ref h11, .ref h12, .ref h13, .ref h14, .int x32, .int x33, .int x34, .int x35, .int x36, .int x37, .int x38, .int x39, .int x40, .ref h15, .ref h16, .int x41, .int x42, .int x43, .int x44, .int x45, .int x46, .int x47, .int x48, .ref h17, .int x49, .int x50, .int x51, .int x52, .int x53])), (h2, .inl (y0, 16, .inl u26_0))]) hP hD [1, 0] [2, 3, 4] rfl rfl (by decide) (by decide) hk1 hFc hP1 hD1 rfl
  have hK := (hK.sub (tys' := [(y1, .int), (y2, .int), (y3, .byte)]) [1, 2, 3] rfl).app hK1
  generalize H1 = H at hP hS ⊢
  have hK : va_K (dC, dI) vwCl [(y1, .int), (y2, .int), (y3, .byte), (y0, .int)] s := hK
  clear hKc hPc hDc hFc hP1 hD1 hK1 hk1 hz1
  rw [hQ]
  obtain ⟨hP9, hD9⟩ := nv_sub2 (wc := [(h0, .inr (12, .int 0 :: .ref h1 :: .ref h2 :: .int 0 :: .int 0 :: .int 0 :: .int 0 :: .int 0 :: .int 0 :: .int 0 :: .int 0 :: .int 0 :: [.int 0, .int 0, .int 0, .int 0, .int 0, .int 0, .ref h3, .ref h4, .ref h5, .ref h6, .int 0, .int 0, .int x18, .int 0, .int 0, .int x21, .int x22, .int x23, .ref h7, .int x24, .int x25, .int x26, .int x27, .ref h8, .ref h9, .int x28, .int x29, .long z0, .int x30, .int x31, .ref h10, .ref h11, .ref h12, .ref h13, .ref h14, .int x32, .int x33, .int x34, .int x35, .int x36, .int x37, .int x38, .int x39, .int x40, .ref h15, .ref h16, .int x41, .int x42, .int x43, .int x44, .int x45, .int x46, .int x47, .int x48, .ref h17, .int x49, .int x50, .int x51, .int x52, .int x53])), (h2, .inl (y0, 16, .inl u26_0)), (h3, .inl (y1, 3, .inl nf21)), (h4, .inl (y2, 3, .inl nf22)), (h1, .inl (y3, 65536, .inl f3))]) hP hD [3, 4, 0, 1, 2] (by decide) rfl
  have hK9 := hK.sub (tys' := [(y0, .int), (y1, .int), (y2, .int), (y3, .byte)]) [3, 0, 1, 2] rfl
  exact W.vret hx hb hr (fun t ht hW => ⟨⟨(u26_0, nf21, nf22), rfl, ⟨(fun j => iv_w (iu26_0 j) (by decide) (by decide)), (kn enf21 (Nat.ne_of_beq_eq_false rfl) (kn enf19 (Nat.ne_of_beq_eq_false rfl) (ku enf17 rfl))), (kn enf21 (Nat.ne_of_beq_eq_false rfl) (ku enf19 rfl)), (ku enf21 rfl), (kn enf22 (Nat.ne_of_beq_eq_false rfl) (kn enf20 (Nat.ne_of_beq_eq_false rfl) (ku enf18 rfl))), (kn enf22 (Nat.ne_of_beq_eq_false rfl) (ku enf20 rfl)), (ku enf22 rfl), trivial⟩, by rw [ht]; exact hP9, va_K.moved hW.alike hK9, hD9⟩, hS.F ht⟩) hS.2.2 dX12_reset_159
set_option maxHeartbeats 100000000 in
set_option maxRecDepth 100000 in
theorem cX3_takes_1 (l : Launch) (dC : Nat → ClassId) (dI : Nat → Nat → Nat) (h0 h1 h2 : Nat) (y0 : ClassId) (sz : Nat) (x0 x1 : Int32) (f0 : Nat → Int32) (ix1 : iv x1 0 40) : Met l yX3_takes (Cond.code yX3_takes cX3_takes 2 (some .boolean) :: lw_G) ({ frames := 0, cells := 0, slots := 0, locals := 0 }) (va_Pc [.ref h0, .int x0] (fun U => U.heap.size = sz ∧ va_P (dC, dI) vwCl [(h0, .inr (3, [.ref h1, .ref h2, .int x1])), (h1, .inl (y0, 40, .inl f0))] U.heap ∧ va_K (dC, dI) vwCl [(y0, .int)] U ∧ va_D (fun _ => True) [(h0, .inr (3, [.ref h1, .ref h2, .int x1])), (h1, .inl (y0, 40, .inl f0))])) (va_Qi (fun (r : Int32) (u : Int32) => iv r 0 1 ∧ iv u 0 40 ∧ True) (fun (u : Int32) (t : State) => va_P (dC, dI) vwCl [(h0, .inr (3, [.ref h1, .ref h2, .int u])), (h1, .inl (y0, 40, .inl f0))] t.heap ∧ va_K (dC, dI) vwCl [(y0, .int)] t ∧ va_D (va_A [(h0, .inr (3, [.ref h1, .ref h2, .int x1])), (h1, .inl (y0, 40, .inl f0))] sz) [(h0, .inr (3, [.ref h1, .ref h2, .int u])), (h1, .inl (y0, 40, .inl f0))]) (va_A [(h0, .inr (3, [.ref h1, .ref h2, .int x1])), (h1, .inl (y0, 40, .inl f0))] sz)) 0 0 (va_A [(h0, .inr (3, [.ref h1, .ref h2, .int x1])), (h1, .inl (y0, 40, .inl f0))] sz) := by
  refine Met.ofW (cc := cX3_takes) (maxL := 2) (ret := (some .boolean)) (by decide) rfl ?_
  intro p e s m args below meth c s₁ B hml hv
  obtain ⟨rfl, hsz, hP, hK, hD0⟩ := hv
  have hx := B.exec
  have hb := B.bytes
  have hr := B.returns
  have hts0 := atoms_spec (ws := Cond.code yX3_takes cX3_takes 2 (some .boolean) :: lw_G) B.pre
  have hG : ∀ w ∈ lw_G, w.before _ s = true := fun w h => hts0 w (List.mem_cons_of_mem _ h)
  have hown : s.vm.findClass RX3 = some m.cls := findClass_of_methodNamed B.named
  have hlocks := B.notSynchronized
  subst hsz
  have hD := hD0.self (sz := s.heap.size)
  generalize hAe : va_A [(h0, .inr (3, [.ref h1, .ref h2, .int x1])), (h1, .inl (y0, 40, .inl f0))] s.heap.size = A at hD ⊢
  have hA : ∀ q : Nat, s.heap.size ≤ q → A q := fun q h => by rw [← hAe]; exact Or.inr h
  have hS : va_S A s.heap s.heap [] := va_S.rf
  have hP : va_P (dC, dI) vwCl [(h0, .inr (3, [.ref h1, .ref h2, .int x1])), (h1, .inl (y0, 40, .inl f0))] s.heap := hP
  have hl := lv_entry ([.ref h0, .int x0]) (n := 2) (Nat.le_of_ble_eq_true rfl)
  rw [lg_entry_eq]
  generalize (lg_sl ([.ref h0, .int x0]) ++ List.replicate (2 - (lg_sl ([.ref h0, .int x0])).length) Slot.unset).toArray = ls at hl ⊢
  have hl : lv_has ls 2 [(0, .ref h0), (1, .int x0)] := hl
  generalize ([.ref h0, .int x0] : List Value).toArray = ar at hG ⊢
  refine wq (fun Q hQ => ?_)
  refine lv_aload_n hx hb dX3_takes_0 rfl (lv_at hl 0 rfl) ?_
  refine va_get (D := (dC, dI)) (ci := 3) (v := .int x1) (C := RX3) (T := TX3) (N := 3) hx hb hG inGX3 hown hK hP 0 rfl rfl 2 (by decide) (hG _ wd_141) (fun _ h9 => h9) rfl dX3_takes_1 ?_
  refine lv_bipush (v := 40) hx hb dX3_takes_4 (by decide) ?_
  refine jcut (a := ∀ (b13 : Int32) (b14 : Int32) (ib13 : iv b13 0 1) (ib14 : iv b14 0 40) (H : Heap) (locs : List Loc) (hK : va_K (dC, dI) vwCl [(y0, .int)] s) (hP : va_P (dC, dI) vwCl [(h0, .inr (3, [.ref h1, .ref h2, .int b14])), (h1, .inl (y0, 40, .inl f0))] H) (hD : va_D A [(h0, .inr (3, [.ref h1, .ref h2, .int b14])), (h1, .inl (y0, 40, .inl f0))]) (hS : va_S A s.heap H locs) (ls : Array Slot) (hl : lv_has ls 2 []), W p l e (headSpec (Cond.code yX3_takes cX3_takes 2 (some .boolean) :: lw_G) ({ frames := 0, cells := 0, slots := 0, locals := 0 })).room s m ar below meth c H locs 0 0 Q (F0 m 36 ls [.int b13])) ?_ (fun j15 => ?_)
  · skip
    intro b13 b14 ib13 ib14 H locs hK hP hD hS ls hl
    rw [hQ]
    obtain ⟨hP9, hD9⟩ := nv_sub2 (wc := [(h0, .inr (3, [.ref h1, .ref h2, .int b14])), (h1, .inl (y0, 40, .inl f0))]) hP hD [0, 1] (by decide) rfl
    have hK9 := hK.sub (tys' := [(y0, .int)]) [0] rfl
    exact W.zret (v := b13) hx hb hr (iv_z (iv_w ib13 (by decide) (by decide))).1 (fun t ht hW => ⟨⟨b13, b14, rfl, ⟨iv_w ib13 (by decide) (by decide), iv_w ib14 (by decide) (by decide), trivial⟩, by rw [ht]; exact hP9, va_K.moved hW.alike hK9, hD9⟩, hS.F ht⟩) hS.2.2 dX3_takes_36
  refine lv_icmp_ge (tgt := 35) hx hb dX3_takes_6 (by decide) (fun c1 => ?_) (fun c1 => ?_)
  · skip
    have j16 : iv x1 40 40 := iv_leR (by decide : iv 40 40 40) ix1 c1 (by decide)
    refine lv_iconst (v := 0) hx hb dX3_takes_35 (by decide) ?_
    exact j15 0 x1 (iv_w (by decide : iv 0 0 0) (by decide) (by decide)) (iv_w j16 (by decide) (by decide)) _ _ hK hP hD hS ls (lv_sub hl [] rfl)
  · skip
    have j17 : iv x1 0 39 := iv_nleR (by decide : iv 40 40 40) ix1 c1 (by decide)
    refine lv_aload_n hx hb dX3_takes_9 rfl (lv_at hl 0 rfl) ?_
    refine va_get (D := (dC, dI)) (ci := 3) (v := .int x1) (C := RX3) (T := TX3) (N := 3) hx hb hG inGX3 hown hK hP 0 rfl rfl 2 (by decide) (hG _ wd_141) (fun _ h9 => h9) rfl dX3_takes_10 ?_
    refine lv_if_eq (tgt := 31) hx hb dX3_takes_13 (by decide) (fun c18 => ?_) (fun c18 => ?_)
    · skip
      subst c18
      refine lv_iconst (v := 1) hx hb dX3_takes_31 (by decide) ?_
      refine lv_goto (tgt := 36) hx hb dX3_takes_32 (by decide) ?_
      exact j15 1 0 (iv_w (by decide : iv 1 1 1) (by decide) (by decide)) (iv_w (by decide : iv 0 0 0) (by decide) (by decide)) _ _ hK hP hD hS ls (lv_sub hl [] rfl)
    · skip
      have j19 : iv x1 1 39 := iv_neLo j17 (by decide : iv 0 0 0) c18 (by decide)
      refine lv_iload_n hx hb dX3_takes_16 rfl (lv_at hl 1 rfl) ?_
      refine lv_aload_n hx hb dX3_takes_17 rfl (lv_at hl 0 rfl) ?_
      refine va_get (D := (dC, dI)) (ci := 3) (v := .ref h1) (C := RX3) (T := TX3) (N := 3) hx hb hG inGX3 hown hK hP 0 rfl rfl 0 (by decide) (hG _ wd_139) (fun _ h9 => h9) rfl dX3_takes_18 ?_
      refine lv_aload_n hx hb dX3_takes_21 rfl (lv_at hl 0 rfl) ?_
      refine va_get (D := (dC, dI)) (ci := 3) (v := .int x1) (C := RX3) (T := TX3) (N := 3) hx hb hG inGX3 hown hK hP 0 rfl rfl 2 (by decide) (hG _ wd_141) (fun _ h9 => h9) rfl dX3_takes_22 ?_
      refine lv_iconst (v := 1) hx hb dX3_takes_25 (by decide) ?_
      refine lv_isub hx hb dX3_takes_26 ?_
      refine lv_topi (fun v20 ev20 => ?_)
      have iv20 : iv v20 0 38 := iv_eq ev20 (iv_sub j19 (by decide : iv 1 1 1) (by decide) (by decide))
      have tv20 : v20.toInt = x1.toInt + (-1) := iv_subT ev20 j19 (by decide) (by decide) (by decide)
      refine va_iald hx hb hK hP 1 0 rfl rfl (iv_in iv20 (by decide) (by decide) : vp_in v20 40) dX3_takes_27 ?_
      refine lv_topi (fun v21 ev21 => ?_)
      refine lv_icmp_lt (tgt := 35) hx hb dX3_takes_28 (by decide) (fun c22 => ?_) (fun c22 => ?_)
      · skip
        have rl23 : x0.toInt < v21.toInt := Int32.lt_iff_toInt_lt.mp c22
        have j24 : iv x0 (-2147483648) 2147483646 := iv_ltL (iv_any x0) (iv_any v21) c22 (by decide)
        have j25 : iv v21 (-2147483647) 2147483647 := iv_ltR (iv_any x0) (iv_any v21) c22 (by decide)
        refine lv_iconst (v := 0) hx hb dX3_takes_35 (by decide) ?_
        exact j15 0 x1 (iv_w (by decide : iv 0 0 0) (by decide) (by decide)) (iv_w j19 (by decide) (by decide)) _ _ hK hP hD hS ls (lv_sub hl [] rfl)
      · skip
        have rl26 : v21.toInt ≤ x0.toInt := iv_nlt2 c22
        refine lv_iconst (v := 1) hx hb dX3_takes_31 (by decide) ?_
        refine lv_goto (tgt := 36) hx hb dX3_takes_32 (by decide) ?_
        exact j15 1 x1 (iv_w (by decide : iv 1 1 1) (by decide) (by decide)) (iv_w j19 (by decide) (by decide)) _ _ hK hP hD hS ls (lv_sub hl [] rfl)
set_option maxHeartbeats 100000000 in
set_option maxRecDepth 100000 in
theorem cX3_add_1 (l : Launch) (dC : Nat → ClassId) (dI : Nat → Nat → Nat) (h0 h1 h2 : Nat) (y0 y1 : ClassId) (sz : Nat) (x0 x1 x2 : Int32) (f0 f1 : Nat → Int32) (ix2 : iv x2 0 40) : Met l yX3_add (Cond.code yX3_add cX3_add 3 none :: lw_G) ({ frames := 0, cells := 0, slots := 0, locals := 0 }) (va_Pc [.ref h0, .int x0, .int x1] (fun U => U.heap.size = sz ∧ va_P (dC, dI) vwCl [(h0, .inr (3, [.ref h1, .ref h2, .int x2])), (h1, .inl (y0, 40, .inl f0)), (h2, .inl (y1, 40, .inl f1))] U.heap ∧ va_K (dC, dI) vwCl [(y0, .int), (y1, .int)] U ∧ va_D (fun _ => True) [(h0, .inr (3, [.ref h1, .ref h2, .int x2])), (h1, .inl (y0, 40, .inl f0)), (h2, .inl (y1, 40, .inl f1))])) (va_Qv (fun (u : Int32 × (Nat → Int32) × (Nat → Int32)) => iv u.1 1 40 ∧ True) (fun (u : Int32 × (Nat → Int32) × (Nat → Int32)) (t : State) => va_P (dC, dI) vwCl [(h0, .inr (3, [.ref h1, .ref h2, .int u.1])), (h1, .inl (y0, 40, .inl u.2.1)), (h2, .inl (y1, 40, .inl u.2.2))] t.heap ∧ va_K (dC, dI) vwCl [(y0, .int), (y1, .int)] t ∧ va_D (va_A [(h0, .inr (3, [.ref h1, .ref h2, .int x2])), (h1, .inl (y0, 40, .inl f0)), (h2, .inl (y1, 40, .inl f1))] sz) [(h0, .inr (3, [.ref h1, .ref h2, .int u.1])), (h1, .inl (y0, 40, .inl u.2.1)), (h2, .inl (y1, 40, .inl u.2.2))]) (va_A [(h0, .inr (3, [.ref h1, .ref h2, .int x2])), (h1, .inl (y0, 40, .inl f0)), (h2, .inl (y1, 40, .inl f1))] sz)) 0 0 (va_A [(h0, .inr (3, [.ref h1, .ref h2, .int x2])), (h1, .inl (y0, 40, .inl f0)), (h2, .inl (y1, 40, .inl f1))] sz) := by
  refine Met.ofW (cc := cX3_add) (maxL := 3) (ret := none) (by decide) rfl ?_
  intro p e s m args below meth c s₁ B hml hv
  obtain ⟨rfl, hsz, hP, hK, hD0⟩ := hv
  have hx := B.exec
  have hb := B.bytes
  have hr := B.returns
  have hts0 := atoms_spec (ws := Cond.code yX3_add cX3_add 3 none :: lw_G) B.pre
  have hG : ∀ w ∈ lw_G, w.before _ s = true := fun w h => hts0 w (List.mem_cons_of_mem _ h)
  have hown : s.vm.findClass RX3 = some m.cls := findClass_of_methodNamed B.named
  have hlocks := B.notSynchronized
  subst hsz
  have hD := hD0.self (sz := s.heap.size)
  generalize hAe : va_A [(h0, .inr (3, [.ref h1, .ref h2, .int x2])), (h1, .inl (y0, 40, .inl f0)), (h2, .inl (y1, 40, .inl f1))] s.heap.size = A at hD ⊢
  have hA : ∀ q : Nat, s.heap.size ≤ q → A q := fun q h => by rw [← hAe]; exact Or.inr h
  have hS : va_S A s.heap s.heap [] := va_S.rf
  have hP : va_P (dC, dI) vwCl [(h0, .inr (3, [.ref h1, .ref h2, .int x2])), (h1, .inl (y0, 40, .inl f0)), (h2, .inl (y1, 40, .inl f1))] s.heap := hP
  have hl := lv_entry ([.ref h0, .int x0, .int x1]) (n := 3) (Nat.le_of_ble_eq_true rfl)
  rw [lg_entry_eq]
  generalize (lg_sl ([.ref h0, .int x0, .int x1]) ++ List.replicate (3 - (lg_sl ([.ref h0, .int x0, .int x1])).length) Slot.unset).toArray = ls at hl ⊢
  have hl : lv_has ls 3 [(0, .ref h0), (1, .int x0), (2, .int x1)] := hl
  generalize ([.ref h0, .int x0, .int x1] : List Value).toArray = ar at hG ⊢
  refine wq (fun Q hQ => ?_)
  refine lv_aload_n hx hb dX3_add_0 rfl (lv_at hl 0 rfl) ?_
  refine va_get (D := (dC, dI)) (ci := 3) (v := .int x2) (C := RX3) (T := TX3) (N := 3) hx hb hG inGX3 hown hK hP 0 rfl rfl 2 (by decide) (hG _ wd_141) (fun _ h9 => h9) rfl dX3_add_1 ?_
  refine lv_bipush (v := 40) hx hb dX3_add_4 (by decide) ?_
  refine jcut (a := ∀ (b7 : Int32) (b8 : Nat → Int32) (b9 : Nat → Int32) (ib7 : iv b7 1 40) (H : Heap) (locs : List Loc) (hK : va_K (dC, dI) vwCl [(y0, .int), (y1, .int)] s) (hP : va_P (dC, dI) vwCl [(h0, .inr (3, [.ref h1, .ref h2, .int b7])), (h1, .inl (y0, 40, .inl b8)), (h2, .inl (y1, 40, .inl b9))] H) (hD : va_D A [(h0, .inr (3, [.ref h1, .ref h2, .int b7])), (h1, .inl (y0, 40, .inl b8)), (h2, .inl (y1, 40, .inl b9))]) (hS : va_S A s.heap H locs) (ls : Array Slot) (hl : lv_has ls 3 []), W p l e (headSpec (Cond.code yX3_add cX3_add 3 none :: lw_G) ({ frames := 0, cells := 0, slots := 0, locals := 0 })).room s m ar below meth c H locs 0 0 Q (F0 m 39 ls [])) ?_ (fun j10 => ?_)
  · skip
    intro b7 b8 b9 ib7 H locs hK hP hD hS ls hl
    rw [hQ]
    obtain ⟨hP9, hD9⟩ := nv_sub2 (wc := [(h0, .inr (3, [.ref h1, .ref h2, .int b7])), (h1, .inl (y0, 40, .inl b8)), (h2, .inl (y1, 40, .inl b9))]) hP hD [0, 1, 2] (by decide) rfl
    have hK9 := hK.sub (tys' := [(y0, .int), (y1, .int)]) [0, 1] rfl
    exact W.vret hx hb hr (fun t ht hW => ⟨⟨(b7, b8, b9), rfl, ⟨iv_w ib7 (by decide) (by decide), trivial⟩, by rw [ht]; exact hP9, va_K.moved hW.alike hK9, hD9⟩, hS.F ht⟩) hS.2.2 dX3_add_39
  refine lv_icmp_ge (tgt := 39) hx hb dX3_add_6 (by decide) (fun c1 => ?_) (fun c1 => ?_)
  · skip
    have j11 : iv x2 40 40 := iv_leR (by decide : iv 40 40 40) ix2 c1 (by decide)
    exact j10 x2 f0 f1 (iv_w j11 (by decide) (by decide)) _ _ hK hP hD hS ls (lv_sub hl [] rfl)
  · skip
    have j12 : iv x2 0 39 := iv_nleR (by decide : iv 40 40 40) ix2 c1 (by decide)
    refine lv_aload_n hx hb dX3_add_9 rfl (lv_at hl 0 rfl) ?_
    refine va_get (D := (dC, dI)) (ci := 3) (v := .ref h1) (C := RX3) (T := TX3) (N := 3) hx hb hG inGX3 hown hK hP 0 rfl rfl 0 (by decide) (hG _ wd_139) (fun _ h9 => h9) rfl dX3_add_10 ?_
    refine lv_aload_n hx hb dX3_add_13 rfl (lv_at hl 0 rfl) ?_
    refine va_get (D := (dC, dI)) (ci := 3) (v := .int x2) (C := RX3) (T := TX3) (N := 3) hx hb hG inGX3 hown hK hP 0 rfl rfl 2 (by decide) (hG _ wd_141) (fun _ h9 => h9) rfl dX3_add_14 ?_
    refine lv_iload_n hx hb dX3_add_17 rfl (lv_at hl 1 rfl) ?_
    refine va_iast hx hb hK hP hD hS 1 0 rfl rfl (iv_in j12 (by decide) (by decide) : vp_in x2 40) dX3_add_18 (fun H locs hP hD hS => ?_)
    obtain ⟨nf13, enf13⟩ : ∃ z, z = upd f0 x2.toNatClampNeg x0 := ⟨_, rfl⟩
    obtain ⟨hP, hD⟩ := nv_eq (ws' := [(h0, .inr (3, [.ref h1, .ref h2, .int x2])), (h1, .inl (y0, 40, .inl nf13)), (h2, .inl (y1, 40, .inl f1))]) hP hD (by subst enf13; rfl)
    refine lv_aload_n hx hb dX3_add_19 rfl (lv_at hl 0 rfl) ?_
    refine va_get (D := (dC, dI)) (ci := 3) (v := .ref h2) (C := RX3) (T := TX3) (N := 3) hx hb hG inGX3 hown hK hP 0 rfl rfl 1 (by decide) (hG _ wd_140) (fun _ h9 => h9) rfl dX3_add_20 ?_
    refine lv_aload_n hx hb dX3_add_23 rfl (lv_at hl 0 rfl) ?_
    refine va_get (D := (dC, dI)) (ci := 3) (v := .int x2) (C := RX3) (T := TX3) (N := 3) hx hb hG inGX3 hown hK hP 0 rfl rfl 2 (by decide) (hG _ wd_141) (fun _ h9 => h9) rfl dX3_add_24 ?_
    refine lv_iload_n hx hb dX3_add_27 rfl (lv_at hl 2 rfl) ?_
    refine va_iast hx hb hK hP hD hS 2 1 rfl rfl (iv_in j12 (by decide) (by decide) : vp_in x2 40) dX3_add_28 (fun H locs hP hD hS => ?_)
    obtain ⟨nf14, enf14⟩ : ∃ z, z = upd f1 x2.toNatClampNeg x1 := ⟨_, rfl⟩
    obtain ⟨hP, hD⟩ := nv_eq (ws' := [(h0, .inr (3, [.ref h1, .ref h2, .int x2])), (h1, .inl (y0, 40, .inl nf13)), (h2, .inl (y1, 40, .inl nf14))]) hP hD (by subst enf14; rfl)
    refine lv_aload_n hx hb dX3_add_29 rfl (lv_at hl 0 rfl) ?_
    refine lv_dup hx hb dX3_add_30 rfl ?_
    refine va_get (D := (dC, dI)) (ci := 3) (v := .int x2) (C := RX3) (T := TX3) (N := 3) hx hb hG inGX3 hown hK hP 0 rfl rfl 2 (by decide) (hG _ wd_141) (fun _ h9 => h9) rfl dX3_add_31 ?_
    refine lv_iconst (v := 1) hx hb dX3_add_34 (by decide) ?_
    refine lv_iadd hx hb dX3_add_35 ?_
    refine lv_topi (fun v15 ev15 => ?_)
    have iv15 : iv v15 1 40 := iv_eq ev15 (iv_add j12 (by decide : iv 1 1 1) (by decide) (by decide))
    have tv15 : v15.toInt = x2.toInt + 1 := iv_addT ev15 j12 (by decide) (by decide) (by decide)
    refine va_put (D := (dC, dI)) (ci := 3) (v := .int v15) (ty := .int) (C := RX3) (T := TX3) (N := 3) hx hb hG inGX3 tyX3 tyX3_ok nmX3 hown hK hP hD hS 0 rfl rfl 2 (by decide) (hG _ wd_141) (fun _ h9 => h9) rfl (by decide +kernel) rfl rfl (Nat.le_of_ble_eq_true rfl) dX3_add_36 (fun H locs hP hD hS => ?_)
    obtain ⟨hP, hD⟩ := nv_eq (ws' := [(h0, .inr (3, [.ref h1, .ref h2, .int v15])), (h1, .inl (y0, 40, .inl nf13)), (h2, .inl (y1, 40, .inl nf14))]) hP hD rfl
    exact j10 v15 nf13 nf14 iv15 _ _ hK hP hD hS ls (lv_sub hl [] rfl)
set_option maxHeartbeats 100000000 in
set_option maxRecDepth 100000 in
theorem cX3_waiting_1 (l : Launch) (dC : Nat → ClassId) (dI : Nat → Nat → Nat) (h0 h1 h2 : Nat) (sz : Nat) (x0 : Int32) (ix0 : iv x0 0 40) : Met l yX3_waiting (Cond.code yX3_waiting cX3_waiting 1 (some .int) :: lw_G) ({ frames := 0, cells := 0, slots := 0, locals := 0 }) (va_Pc [.ref h0] (fun U => U.heap.size = sz ∧ va_P (dC, dI) vwCl [(h0, .inr (3, [.ref h1, .ref h2, .int x0]))] U.heap ∧ va_K (dC, dI) vwCl [] U ∧ va_D (fun _ => True) [(h0, .inr (3, [.ref h1, .ref h2, .int x0]))])) (va_Qi (fun (r : Int32) (u : Unit) => iv r 0 40 ∧ True) (fun (u : Unit) (t : State) => va_P (dC, dI) vwCl [(h0, .inr (3, [.ref h1, .ref h2, .int x0]))] t.heap ∧ va_K (dC, dI) vwCl [] t ∧ va_D (va_A [(h0, .inr (3, [.ref h1, .ref h2, .int x0]))] sz) [(h0, .inr (3, [.ref h1, .ref h2, .int x0]))]) (va_A [(h0, .inr (3, [.ref h1, .ref h2, .int x0]))] sz)) 0 0 (va_A [(h0, .inr (3, [.ref h1, .ref h2, .int x0]))] sz) := by
  refine Met.ofW (cc := cX3_waiting) (maxL := 1) (ret := (some .int)) (by decide) rfl ?_
  intro p e s m args below meth c s₁ B hml hv
  obtain ⟨rfl, hsz, hP, hK, hD0⟩ := hv
  have hx := B.exec
  have hb := B.bytes
  have hr := B.returns
  have hts0 := atoms_spec (ws := Cond.code yX3_waiting cX3_waiting 1 (some .int) :: lw_G) B.pre
  have hG : ∀ w ∈ lw_G, w.before _ s = true := fun w h => hts0 w (List.mem_cons_of_mem _ h)
  have hown : s.vm.findClass RX3 = some m.cls := findClass_of_methodNamed B.named
  have hlocks := B.notSynchronized
  subst hsz
  have hD := hD0.self (sz := s.heap.size)
  generalize hAe : va_A [(h0, .inr (3, [.ref h1, .ref h2, .int x0]))] s.heap.size = A at hD ⊢
  have hA : ∀ q : Nat, s.heap.size ≤ q → A q := fun q h => by rw [← hAe]; exact Or.inr h
  have hS : va_S A s.heap s.heap [] := va_S.rf
  have hP : va_P (dC, dI) vwCl [(h0, .inr (3, [.ref h1, .ref h2, .int x0]))] s.heap := hP
  have hl := lv_entry ([.ref h0]) (n := 1) (Nat.le_of_ble_eq_true rfl)
  rw [lg_entry_eq]
  generalize (lg_sl ([.ref h0]) ++ List.replicate (1 - (lg_sl ([.ref h0])).length) Slot.unset).toArray = ls at hl ⊢
  have hl : lv_has ls 1 [(0, .ref h0)] := hl
  generalize ([.ref h0] : List Value).toArray = ar at hG ⊢
  refine wq (fun Q hQ => ?_)
  refine lv_aload_n hx hb dX3_waiting_0 rfl (lv_at hl 0 rfl) ?_
  refine va_get (D := (dC, dI)) (ci := 3) (v := .int x0) (C := RX3) (T := TX3) (N := 3) hx hb hG inGX3 hown hK hP 0 rfl rfl 2 (by decide) (hG _ wd_141) (fun _ h9 => h9) rfl dX3_waiting_1 ?_
  rw [hQ]
  obtain ⟨hP9, hD9⟩ := nv_sub2 (wc := [(h0, .inr (3, [.ref h1, .ref h2, .int x0]))]) hP hD [0] (by decide) rfl
  have hK9 := hK.sub (tys' := []) [] rfl
  exact W.iret (v := x0) hx hb hr (fun t ht hW => ⟨⟨x0, (), rfl, ⟨iv_w ix0 (by decide) (by decide), trivial⟩, by rw [ht]; exact hP9, va_K.moved hW.alike hK9, hD9⟩, hS.F ht⟩) hS.2.2 dX3_waiting_4
set_option maxHeartbeats 100000000 in
set_option maxRecDepth 100000 in
theorem cX2_expect_1 (l : Launch) (dC : Nat → ClassId) (dI : Nat → Nat → Nat) (h0 h1 h2 h3 h4 h5 : Nat) (y0 y1 : ClassId) (sz : Nat) (x0 x1 x2 x3 x4 x5 x6 x7 : Int32) (f0 f1 : Nat → Int32) (ix6 : iv x6 0 1) (ix7 : iv x7 0 40) : Met l yX2_expect (Cond.code yX2_expect cX2_expect 3 (some .int) :: lw_G) ({ frames := 1, cells := 0, slots := 0, locals := 22 }) (va_Pc [.ref h0, .int x0, .int x1] (fun U => U.heap.size = sz ∧ va_P (dC, dI) vwCl [(h0, .inr (2, [.ref h1, .ref h2, .ref h3, .int x2, .int x3, .int x4, .int x5, .int x6])), (h2, .inr (3, [.ref h4, .ref h5, .int x7])), (h4, .inl (y0, 40, .inl f0)), (h5, .inl (y1, 40, .inl f1))] U.heap ∧ va_K (dC, dI) vwCl [(y0, .int), (y1, .int)] U ∧ va_D (fun _ => True) [(h0, .inr (2, [.ref h1, .ref h2, .ref h3, .int x2, .int x3, .int x4, .int x5, .int x6])), (h2, .inr (3, [.ref h4, .ref h5, .int x7])), (h4, .inl (y0, 40, .inl f0)), (h5, .inl (y1, 40, .inl f1))])) (va_Qi (fun (r : Int32) (u : Int32 × (Nat → Int32) × (Nat → Int32)) => iv r (-1) 40 ∧ iv u.1 0 40 ∧ True) (fun (u : Int32 × (Nat → Int32) × (Nat → Int32)) (t : State) => va_P (dC, dI) vwCl [(h0, .inr (2, [.ref h1, .ref h2, .ref h3, .int x2, .int x3, .int x4, .int x5, .int x6])), (h2, .inr (3, [.ref h4, .ref h5, .int u.1])), (h4, .inl (y0, 40, .inl u.2.1)), (h5, .inl (y1, 40, .inl u.2.2))] t.heap ∧ va_K (dC, dI) vwCl [(y0, .int), (y1, .int)] t ∧ va_D (va_A [(h0, .inr (2, [.ref h1, .ref h2, .ref h3, .int x2, .int x3, .int x4, .int x5, .int x6])), (h2, .inr (3, [.ref h4, .ref h5, .int x7])), (h4, .inl (y0, 40, .inl f0)), (h5, .inl (y1, 40, .inl f1))] sz) [(h0, .inr (2, [.ref h1, .ref h2, .ref h3, .int x2, .int x3, .int x4, .int x5, .int x6])), (h2, .inr (3, [.ref h4, .ref h5, .int u.1])), (h4, .inl (y0, 40, .inl u.2.1)), (h5, .inl (y1, 40, .inl u.2.2))]) (va_A [(h0, .inr (2, [.ref h1, .ref h2, .ref h3, .int x2, .int x3, .int x4, .int x5, .int x6])), (h2, .inr (3, [.ref h4, .ref h5, .int x7])), (h4, .inl (y0, 40, .inl f0)), (h5, .inl (y1, 40, .inl f1))] sz)) 0 0 (va_A [(h0, .inr (2, [.ref h1, .ref h2, .ref h3, .int x2, .int x3, .int x4, .int x5, .int x6])), (h2, .inr (3, [.ref h4, .ref h5, .int x7])), (h4, .inl (y0, 40, .inl f0)), (h5, .inl (y1, 40, .inl f1))] sz) := by
  refine Met.ofW (cc := cX2_expect) (maxL := 3) (ret := (some .int)) (by decide) rfl ?_
  intro p e s m args below meth c s₁ B hml hv
  obtain ⟨rfl, hsz, hP, hK, hD0⟩ := hv
  have hx := B.exec
  have hb := B.bytes
  have hr := B.returns
  have hts0 := atoms_spec (ws := Cond.code yX2_expect cX2_expect 3 (some .int) :: lw_G) B.pre
  have hG : ∀ w ∈ lw_G, w.before _ s = true := fun w h => hts0 w (List.mem_cons_of_mem _ h)
  have hown : s.vm.findClass RX2 = some m.cls := findClass_of_methodNamed B.named
  have hlocks := B.notSynchronized
  subst hsz
  have hD := hD0.self (sz := s.heap.size)
  generalize hAe : va_A [(h0, .inr (2, [.ref h1, .ref h2, .ref h3, .int x2, .int x3, .int x4, .int x5, .int x6])), (h2, .inr (3, [.ref h4, .ref h5, .int x7])), (h4, .inl (y0, 40, .inl f0)), (h5, .inl (y1, 40, .inl f1))] s.heap.size = A at hD ⊢
  have hA : ∀ q : Nat, s.heap.size ≤ q → A q := fun q h => by rw [← hAe]; exact Or.inr h
  have hS : va_S A s.heap s.heap [] := va_S.rf
  have hP : va_P (dC, dI) vwCl [(h0, .inr (2, [.ref h1, .ref h2, .ref h3, .int x2, .int x3, .int x4, .int x5, .int x6])), (h2, .inr (3, [.ref h4, .ref h5, .int x7])), (h4, .inl (y0, 40, .inl f0)), (h5, .inl (y1, 40, .inl f1))] s.heap := hP
  have hl := lv_entry ([.ref h0, .int x0, .int x1]) (n := 3) (Nat.le_of_ble_eq_true rfl)
  rw [lg_entry_eq]
  generalize (lg_sl ([.ref h0, .int x0, .int x1]) ++ List.replicate (3 - (lg_sl ([.ref h0, .int x0, .int x1])).length) Slot.unset).toArray = ls at hl ⊢
  have hl : lv_has ls 3 [(0, .ref h0), (1, .int x0), (2, .int x1)] := hl
  generalize ([.ref h0, .int x0, .int x1] : List Value).toArray = ar at hG ⊢
  refine wq (fun Q hQ => ?_)
  refine lv_iload_n hx hb dX2_expect_0 rfl (lv_at hl 1 rfl) ?_
  refine lv_aload_n hx hb dX2_expect_1 rfl (lv_at hl 0 rfl) ?_
  refine va_get (D := (dC, dI)) (ci := 2) (v := .int x2) (C := RX2) (T := TX2) (N := 8) hx hb hG inGX2 hown hK hP 0 rfl rfl 3 (by decide) (hG _ wd_152) (fun _ h9 => h9) rfl dX2_expect_2 ?_
  refine lv_icmp_lt (tgt := 30) hx hb dX2_expect_5 (by decide) (fun c1 => ?_) (fun c1 => ?_)
  · skip
    have rl2 : x0.toInt < x2.toInt := Int32.lt_iff_toInt_lt.mp c1
    have j3 : iv x0 (-2147483648) 2147483646 := iv_ltL (iv_any x0) (iv_any x2) c1 (by decide)
    have j4 : iv x2 (-2147483647) 2147483647 := iv_ltR (iv_any x0) (iv_any x2) c1 (by decide)
    refine lv_iconst (v := (-1)) hx hb dX2_expect_30 (by decide) ?_
    rw [hQ]
    obtain ⟨hP9, hD9⟩ := nv_sub2 (wc := [(h0, .inr (2, [.ref h1, .ref h2, .ref h3, .int x2, .int x3, .int x4, .int x5, .int x6])), (h2, .inr (3, [.ref h4, .ref h5, .int x7])), (h4, .inl (y0, 40, .inl f0)), (h5, .inl (y1, 40, .inl f1))]) hP hD [0, 1, 2, 3] (by decide) rfl
    have hK9 := hK.sub (tys' := [(y0, .int), (y1, .int)]) [0, 1] rfl
    exact W.iret (v := (-1)) hx hb hr (fun t ht hW => ⟨⟨(-1), (x7, f0, f1), rfl, ⟨iv_w (by decide : iv (-1) (-1) (-1)) (by decide) (by decide), iv_w ix7 (by decide) (by decide), trivial⟩, by rw [ht]; exact hP9, va_K.moved hW.alike hK9, hD9⟩, hS.F ht⟩) hS.2.2 dX2_expect_31
  · skip
    have rl5 : x2.toInt ≤ x0.toInt := iv_nlt2 c1
    refine lv_iload_n hx hb dX2_expect_8 rfl (lv_at hl 2 rfl) ?_
    refine lv_if_lt (tgt := 30) hx hb dX2_expect_9 (by decide) (fun c6 => ?_) (fun c6 => ?_)
    · skip
      have j7 : iv x1 (-2147483648) (-1) := iv_ltL (iv_any x1) (by decide : iv 0 0 0) c6 (by decide)
      refine lv_iconst (v := (-1)) hx hb dX2_expect_30 (by decide) ?_
      rw [hQ]
      obtain ⟨hP9, hD9⟩ := nv_sub2 (wc := [(h0, .inr (2, [.ref h1, .ref h2, .ref h3, .int x2, .int x3, .int x4, .int x5, .int x6])), (h2, .inr (3, [.ref h4, .ref h5, .int x7])), (h4, .inl (y0, 40, .inl f0)), (h5, .inl (y1, 40, .inl f1))]) hP hD [0, 1, 2, 3] (by decide) rfl
      have hK9 := hK.sub (tys' := [(y0, .int), (y1, .int)]) [0, 1] rfl
      exact W.iret (v := (-1)) hx hb hr (fun t ht hW => ⟨⟨(-1), (x7, f0, f1), rfl, ⟨iv_w (by decide : iv (-1) (-1) (-1)) (by decide) (by decide), iv_w ix7 (by decide) (by decide), trivial⟩, by rw [ht]; exact hP9, va_K.moved hW.alike hK9, hD9⟩, hS.F ht⟩) hS.2.2 dX2_expect_31
    · skip
      have j8 : iv x1 0 2147483647 := iv_nltL (iv_any x1) (by decide : iv 0 0 0) c6 (by decide)
      refine lv_iload_n hx hb dX2_expect_12 rfl (lv_at hl 2 rfl) ?_
      refine lv_sipush (v := 255) hx hb dX2_expect_13 (by decide) ?_
      refine lv_icmp_gt (tgt := 30) hx hb dX2_expect_16 (by decide) (fun c9 => ?_) (fun c9 => ?_)
      · skip
        have j10 : iv x1 256 2147483647 := iv_ltR (by decide : iv 255 255 255) j8 c9 (by decide)
        refine lv_iconst (v := (-1)) hx hb dX2_expect_30 (by decide) ?_
        rw [hQ]
        obtain ⟨hP9, hD9⟩ := nv_sub2 (wc := [(h0, .inr (2, [.ref h1, .ref h2, .ref h3, .int x2, .int x3, .int x4, .int x5, .int x6])), (h2, .inr (3, [.ref h4, .ref h5, .int x7])), (h4, .inl (y0, 40, .inl f0)), (h5, .inl (y1, 40, .inl f1))]) hP hD [0, 1, 2, 3] (by decide) rfl
        have hK9 := hK.sub (tys' := [(y0, .int), (y1, .int)]) [0, 1] rfl
        exact W.iret (v := (-1)) hx hb hr (fun t ht hW => ⟨⟨(-1), (x7, f0, f1), rfl, ⟨iv_w (by decide : iv (-1) (-1) (-1)) (by decide) (by decide), iv_w ix7 (by decide) (by decide), trivial⟩, by rw [ht]; exact hP9, va_K.moved hW.alike hK9, hD9⟩, hS.F ht⟩) hS.2.2 dX2_expect_31
      · skip
        have j11 : iv x1 0 255 := iv_nltR (by decide : iv 255 255 255) j8 c9 (by decide)
        refine lv_aload_n hx hb dX2_expect_19 rfl (lv_at hl 0 rfl) ?_
        refine va_get (D := (dC, dI)) (ci := 2) (v := .ref h2) (C := RX2) (T := TX2) (N := 8) hx hb hG inGX2 hown hK hP 0 rfl rfl 1 (by decide) (hG _ wd_150) (fun _ h9 => h9) rfl dX2_expect_20 ?_
        refine lv_iload_n hx hb dX2_expect_23 rfl (lv_at hl 1 rfl) ?_
        obtain ⟨hPc, hDc, hFc⟩ := nv_sub3 (wc := [(h2, .inr (3, [.ref h4, .ref h5, .int x7])), (h4, .inl (y0, 40, .inl f0))]) hP hD hS hA [1, 2] (by decide) rfl
        have hKc := hK.sub (tys' := [(y0, .int)]) [0] rfl
        refine va_calli (va_runV (As := [.int x0]) (rest := []) ⟨hx, hb, hml, hown, hG⟩ (cX3_takes_1 l dC dI h2 h4 h5 y0 s.heap.size x0 x7 f0 ix7) (cwV 1 hG (gV wd_838 wd_839 wd_840 wd_7 wd_841) rfl rfl rfl (by decide +kernel) ⟨Nat.le_of_ble_eq_true rfl, Nat.le_of_ble_eq_true rfl⟩) ⟨fun a U g mk q => by obtain ⟨q0, q1, qP, qK, qD⟩ := q; exact ⟨q0, q1, qP, va_K.moved (u := U) (U := U.calling g mk a) (Vm.Alike.refl U.vm) qK, qD⟩, va_recv hKc hPc (ci := 3) (q0 := 0) rfl rfl, fun U hU hW => ⟨rfl, by rw [hU], by rw [hU]; exact hPc, va_K.moved hW.alike hKc, hDc.weaken (fun _ _ _ _ => trivial)⟩⟩ rfl rfl hl.1 rfl (lv_room (Nat.le_of_ble_eq_true rfl)) dX2_expect_24 ⟨by decide, by decide⟩) hS (fun q _ h => hFc q h) hFc (fun r12 u13 t H1 locs ht hvm hw hB hz1 hk1 hS => ?_)
        obtain ⟨u13_0, rfl⟩ : ∃ z, z = u13 := ⟨_, rfl⟩
        have hw : iv r12 0 1 ∧ iv u13_0 0 40 ∧ True := hw
        obtain ⟨ir12, iu13_0, -⟩ := hw
        obtain ⟨hP1, hK1, hD1⟩ := hB
        rw [ht] at hP1
        have hK1 := va_K.moved hvm.symm hK1
        obtain ⟨hP, hD⟩ := nv_join (wf := [(h0, .inr (2, [.ref h1, .ref h2, .ref h3, .int x2, .int x3, .int x4, .int x5, .int x6])), (h5, .inl (y1, 40, .inl f1)), (h2, .inr (3, [.ref h4, .ref h5, .int u13_0])), (h4, .inl (y0, 40, .inl f0))]) hP hD [1, 2] [0, 3] rfl rfl (by decide) (by decide) hk1 hFc hP1 hD1 rfl
        have hK := (hK.sub (tys' := [(y1, .int)]) [1] rfl).app hK1
        generalize H1 = H at hP hS ⊢
        have hK : va_K (dC, dI) vwCl [(y1, .int), (y0, .int)] s := hK
        refine lv_if_ne (tgt := 32) hx hb dX2_expect_27 (by decide) (fun c14 => ?_) (fun c14 => ?_)
        · skip
          have j15 : iv r12 1 1 := iv_neLo ir12 (by decide : iv 0 0 0) c14 (by decide)
          refine lv_aload_n hx hb dX2_expect_32 rfl (lv_at hl 0 rfl) ?_
          refine va_get (D := (dC, dI)) (ci := 2) (v := .ref h2) (C := RX2) (T := TX2) (N := 8) hx hb hG inGX2 hown hK hP 0 rfl rfl 1 (by decide) (hG _ wd_150) (fun _ h9 => h9) rfl dX2_expect_33 ?_
          refine lv_iload_n hx hb dX2_expect_36 rfl (lv_at hl 1 rfl) ?_
          refine lv_iload_n hx hb dX2_expect_37 rfl (lv_at hl 2 rfl) ?_
          obtain ⟨hPc, hDc, hFc⟩ := nv_sub3 (wc := [(h2, .inr (3, [.ref h4, .ref h5, .int u13_0])), (h4, .inl (y0, 40, .inl f0)), (h5, .inl (y1, 40, .inl f1))]) hP hD hS hA [2, 3, 1] (by decide) rfl
          have hKc := hK.sub (tys' := [(y0, .int), (y1, .int)]) [1, 0] rfl
          refine va_callv (va_runV (As := [.int x0, .int x1]) (rest := []) ⟨hx, hb, hml, hown, hG⟩ (cX3_add_1 l dC dI h2 h4 h5 y0 y1 H.size x0 x1 u13_0 f0 f1 iu13_0) (cwV 2 hG (gV wd_842 wd_843 wd_844 wd_7 wd_845) rfl rfl rfl (by decide +kernel) ⟨Nat.le_of_ble_eq_true rfl, Nat.le_of_ble_eq_true rfl⟩) ⟨fun a U g mk q => by obtain ⟨q0, q1, qP, qK, qD⟩ := q; exact ⟨q0, q1, qP, va_K.moved (u := U) (U := U.calling g mk a) (Vm.Alike.refl U.vm) qK, qD⟩, va_recv hKc hPc (ci := 3) (q0 := 0) rfl rfl, fun U hU hW => ⟨rfl, by rw [hU], by rw [hU]; exact hPc, va_K.moved hW.alike hKc, hDc.weaken (fun _ _ _ _ => trivial)⟩⟩ rfl rfl hl.1 rfl (lv_room (Nat.le_of_ble_eq_true rfl)) dX2_expect_38 ⟨by decide, by decide⟩) hS (fun q _ h => hFc q h) hFc (fun u17 t H1 locs ht hvm hw hB hz1 hk1 hS => ?_)
          obtain ⟨u17_0, u17_1, u17_2⟩ := u17
          have hw : iv u17_0 1 40 ∧ True := hw
          obtain ⟨iu17_0, -⟩ := hw
          obtain ⟨hP1, hK1, hD1⟩ := hB
          rw [ht] at hP1
          have hK1 := va_K.moved hvm.symm hK1
          obtain ⟨hP, hD⟩ := nv_join (wf := [(h0, .inr (2, [.ref h1, .ref h2, .ref h3, .int x2, .int x3, .int x4, .int x5, .int x6])), (h2, .inr (3, [.ref h4, .ref h5, .int u17_0])), (h4, .inl (y0, 40, .inl u17_1)), (h5, .inl (y1, 40, .inl u17_2))]) hP hD [2, 3, 1] [0] rfl rfl (by decide) (by decide) hk1 hFc hP1 hD1 rfl
          have hK := (hK.sub (tys' := []) [] rfl).app hK1
          generalize H1 = H at hP hS ⊢
          have hK : va_K (dC, dI) vwCl [(y0, .int), (y1, .int)] s := hK
          refine lv_aload_n hx hb dX2_expect_41 rfl (lv_at hl 0 rfl) ?_
          refine va_get (D := (dC, dI)) (ci := 2) (v := .ref h2) (C := RX2) (T := TX2) (N := 8) hx hb hG inGX2 hown hK hP 0 rfl rfl 1 (by decide) (hG _ wd_150) (fun _ h9 => h9) rfl dX2_expect_42 ?_
          obtain ⟨hPc, hDc, hFc⟩ := nv_sub3 (wc := [(h2, .inr (3, [.ref h4, .ref h5, .int u17_0]))]) hP hD hS hA [1] (by decide) rfl
          have hKc := hK.sub (tys' := []) [] rfl
          refine va_calli (va_runV (As := []) (rest := []) ⟨hx, hb, hml, hown, hG⟩ (cX3_waiting_1 l dC dI h2 h4 h5 H.size u17_0 (iv_w iu17_0 (by decide) (by decide))) (cwV 0 hG (gV wd_846 wd_847 wd_848 wd_7 wd_849) rfl rfl rfl (by decide +kernel) ⟨Nat.le_of_ble_eq_true rfl, Nat.le_of_ble_eq_true rfl⟩) ⟨fun a U g mk q => by obtain ⟨q0, q1, qP, qK, qD⟩ := q; exact ⟨q0, q1, qP, va_K.moved (u := U) (U := U.calling g mk a) (Vm.Alike.refl U.vm) qK, qD⟩, va_recv hKc hPc (ci := 3) (q0 := 0) rfl rfl, fun U hU hW => ⟨rfl, by rw [hU], by rw [hU]; exact hPc, va_K.moved hW.alike hKc, hDc.weaken (fun _ _ _ _ => trivial)⟩⟩ rfl rfl hl.1 rfl (lv_room (Nat.le_of_ble_eq_true rfl)) dX2_expect_45 ⟨by decide, by decide⟩) hS (fun q _ h => hFc q h) hFc (fun r18 u19 t H1 locs ht hvm hw hB hz1 hk1 hS => ?_)
          have hw : iv r18 0 40 ∧ True := hw
          obtain ⟨ir18, -⟩ := hw
          obtain ⟨hP1, hK1, hD1⟩ := hB
          rw [ht] at hP1
          have hK1 := va_K.moved hvm.symm hK1
          obtain ⟨hP, hD⟩ := nv_join (wf := [(h0, .inr (2, [.ref h1, .ref h2, .ref h3, .int x2, .int x3, .int x4, .int x5, .int x6])), (h4, .inl (y0, 40, .inl u17_1)), (h5, .inl (y1, 40, .inl u17_2)), (h2, .inr (3, [.ref h4, .ref h5, .int u17_0]))]) hP hD [1] [0, 2, 3] rfl rfl (by decide) (by decide) hk1 hFc hP1 hD1 rfl
          have hK := (hK.sub (tys' := [(y0, .int), (y1, .int)]) [0, 1] rfl).app hK1
          generalize H1 = H at hP hS ⊢
          have hK : va_K (dC, dI) vwCl [(y0, .int), (y1, .int)] s := hK
          rw [hQ]
          obtain ⟨hP9, hD9⟩ := nv_sub2 (wc := [(h0, .inr (2, [.ref h1, .ref h2, .ref h3, .int x2, .int x3, .int x4, .int x5, .int x6])), (h2, .inr (3, [.ref h4, .ref h5, .int u17_0])), (h4, .inl (y0, 40, .inl u17_1)), (h5, .inl (y1, 40, .inl u17_2))]) hP hD [0, 3, 1, 2] (by decide) rfl
          have hK9 := hK.sub (tys' := [(y0, .int), (y1, .int)]) [0, 1] rfl
          exact W.iret (v := r18) hx hb hr (fun t ht hW => ⟨⟨r18, (u17_0, u17_1, u17_2), rfl, ⟨iv_w ir18 (by decide) (by decide), iv_w iu17_0 (by decide) (by decide), trivial⟩, by rw [ht]; exact hP9, va_K.moved hW.alike hK9, hD9⟩, hS.F ht⟩) hS.2.2 dX2_expect_48
        · skip
          subst c14
          refine lv_iconst (v := (-1)) hx hb dX2_expect_30 (by decide) ?_
          rw [hQ]
          obtain ⟨hP9, hD9⟩ := nv_sub2 (wc := [(h0, .inr (2, [.ref h1, .ref h2, .ref h3, .int x2, .int x3, .int x4, .int x5, .int x6])), (h2, .inr (3, [.ref h4, .ref h5, .int u13_0])), (h4, .inl (y0, 40, .inl f0)), (h5, .inl (y1, 40, .inl f1))]) hP hD [0, 2, 3, 1] (by decide) rfl
          have hK9 := hK.sub (tys' := [(y0, .int), (y1, .int)]) [1, 0] rfl
          exact W.iret (v := (-1)) hx hb hr (fun t ht hW => ⟨⟨(-1), (u13_0, f0, f1), rfl, ⟨iv_w (by decide : iv (-1) (-1) (-1)) (by decide) (by decide), iv_w iu13_0 (by decide) (by decide), trivial⟩, by rw [ht]; exact hP9, va_K.moved hW.alike hK9, hD9⟩, hS.F ht⟩) hS.2.2 dX2_expect_31
set_option maxHeartbeats 100000000 in
set_option maxRecDepth 100000 in
theorem cX11_event_1 (l : Launch) (dC : Nat → ClassId) (dI : Nat → Nat → Nat) (h0 h1 h2 h3 h4 h5 h6 h7 h8 h9 : Nat) (y0 y1 : ClassId) (sz : Nat) (x0 x1 x2 x3 x4 x5 x6 x7 x8 x9 : Int32) (f0 f1 : Nat → Int32) (ix2 : iv x2 0 2600) (ix8 : iv x8 0 1) (ix9 : iv x9 0 40) : Met l yX11_event (Cond.code yX11_event cX11_event 3 (some .int) :: lw_G) ({ frames := 2, cells := 0, slots := 0, locals := 44 }) (va_Pc [.ref h0, .int x0, .int x1] (fun U => U.heap.size = sz ∧ va_P (dC, dI) vwCl [(h0, .inr (11, [.ref h1, .ref h2, .ref h3, .ref h4, .ref h5, .int x2, .int x3])), (h3, .inr (2, [.ref h6, .ref h7, .ref h2, .int x4, .int x5, .int x6, .int x7, .int x8])), (h7, .inr (3, [.ref h8, .ref h9, .int x9])), (h8, .inl (y0, 40, .inl f0)), (h9, .inl (y1, 40, .inl f1))] U.heap ∧ va_K (dC, dI) vwCl [(y0, .int), (y1, .int)] U ∧ va_D (fun _ => True) [(h0, .inr (11, [.ref h1, .ref h2, .ref h3, .ref h4, .ref h5, .int x2, .int x3])), (h3, .inr (2, [.ref h6, .ref h7, .ref h2, .int x4, .int x5, .int x6, .int x7, .int x8])), (h7, .inr (3, [.ref h8, .ref h9, .int x9])), (h8, .inl (y0, 40, .inl f0)), (h9, .inl (y1, 40, .inl f1))])) (va_Qi (fun (r : Int32) (u : Int32 × (Nat → Int32) × (Nat → Int32)) => iv r (-1) 40 ∧ iv u.1 0 40 ∧ True) (fun (u : Int32 × (Nat → Int32) × (Nat → Int32)) (t : State) => va_P (dC, dI) vwCl [(h0, .inr (11, [.ref h1, .ref h2, .ref h3, .ref h4, .ref h5, .int x2, .int x3])), (h3, .inr (2, [.ref h6, .ref h7, .ref h2, .int x4, .int x5, .int x6, .int x7, .int x8])), (h7, .inr (3, [.ref h8, .ref h9, .int u.1])), (h8, .inl (y0, 40, .inl u.2.1)), (h9, .inl (y1, 40, .inl u.2.2))] t.heap ∧ va_K (dC, dI) vwCl [(y0, .int), (y1, .int)] t ∧ va_D (va_A [(h0, .inr (11, [.ref h1, .ref h2, .ref h3, .ref h4, .ref h5, .int x2, .int x3])), (h3, .inr (2, [.ref h6, .ref h7, .ref h2, .int x4, .int x5, .int x6, .int x7, .int x8])), (h7, .inr (3, [.ref h8, .ref h9, .int x9])), (h8, .inl (y0, 40, .inl f0)), (h9, .inl (y1, 40, .inl f1))] sz) [(h0, .inr (11, [.ref h1, .ref h2, .ref h3, .ref h4, .ref h5, .int x2, .int x3])), (h3, .inr (2, [.ref h6, .ref h7, .ref h2, .int x4, .int x5, .int x6, .int x7, .int x8])), (h7, .inr (3, [.ref h8, .ref h9, .int u.1])), (h8, .inl (y0, 40, .inl u.2.1)), (h9, .inl (y1, 40, .inl u.2.2))]) (va_A [(h0, .inr (11, [.ref h1, .ref h2, .ref h3, .ref h4, .ref h5, .int x2, .int x3])), (h3, .inr (2, [.ref h6, .ref h7, .ref h2, .int x4, .int x5, .int x6, .int x7, .int x8])), (h7, .inr (3, [.ref h8, .ref h9, .int x9])), (h8, .inl (y0, 40, .inl f0)), (h9, .inl (y1, 40, .inl f1))] sz)) 0 0 (va_A [(h0, .inr (11, [.ref h1, .ref h2, .ref h3, .ref h4, .ref h5, .int x2, .int x3])), (h3, .inr (2, [.ref h6, .ref h7, .ref h2, .int x4, .int x5, .int x6, .int x7, .int x8])), (h7, .inr (3, [.ref h8, .ref h9, .int x9])), (h8, .inl (y0, 40, .inl f0)), (h9, .inl (y1, 40, .inl f1))] sz) := by
  refine Met.ofW (cc := cX11_event) (maxL := 3) (ret := (some .int)) (by decide) rfl ?_
  intro p e s m args below meth c s₁ B hml hv
  obtain ⟨rfl, hsz, hP, hK, hD0⟩ := hv
  have hx := B.exec
  have hb := B.bytes
  have hr := B.returns
  have hts0 := atoms_spec (ws := Cond.code yX11_event cX11_event 3 (some .int) :: lw_G) B.pre
  have hG : ∀ w ∈ lw_G, w.before _ s = true := fun w h => hts0 w (List.mem_cons_of_mem _ h)
  have hown : s.vm.findClass RX11 = some m.cls := findClass_of_methodNamed B.named
  have hlocks := B.notSynchronized
  subst hsz
  have hD := hD0.self (sz := s.heap.size)
  generalize hAe : va_A [(h0, .inr (11, [.ref h1, .ref h2, .ref h3, .ref h4, .ref h5, .int x2, .int x3])), (h3, .inr (2, [.ref h6, .ref h7, .ref h2, .int x4, .int x5, .int x6, .int x7, .int x8])), (h7, .inr (3, [.ref h8, .ref h9, .int x9])), (h8, .inl (y0, 40, .inl f0)), (h9, .inl (y1, 40, .inl f1))] s.heap.size = A at hD ⊢
  have hA : ∀ q : Nat, s.heap.size ≤ q → A q := fun q h => by rw [← hAe]; exact Or.inr h
  have hS : va_S A s.heap s.heap [] := va_S.rf
  have hP : va_P (dC, dI) vwCl [(h0, .inr (11, [.ref h1, .ref h2, .ref h3, .ref h4, .ref h5, .int x2, .int x3])), (h3, .inr (2, [.ref h6, .ref h7, .ref h2, .int x4, .int x5, .int x6, .int x7, .int x8])), (h7, .inr (3, [.ref h8, .ref h9, .int x9])), (h8, .inl (y0, 40, .inl f0)), (h9, .inl (y1, 40, .inl f1))] s.heap := hP
  have hl := lv_entry ([.ref h0, .int x0, .int x1]) (n := 3) (Nat.le_of_ble_eq_true rfl)
  rw [lg_entry_eq]
  generalize (lg_sl ([.ref h0, .int x0, .int x1]) ++ List.replicate (3 - (lg_sl ([.ref h0, .int x0, .int x1])).length) Slot.unset).toArray = ls at hl ⊢
  have hl : lv_has ls 3 [(0, .ref h0), (1, .int x0), (2, .int x1)] := hl
  generalize ([.ref h0, .int x0, .int x1] : List Value).toArray = ar at hG ⊢
  refine wq (fun Q hQ => ?_)
  refine lv_aload_n hx hb dX11_event_0 rfl (lv_at hl 0 rfl) ?_
  refine va_get (D := (dC, dI)) (ci := 11) (v := .ref h3) (C := RX11) (T := TX11) (N := 7) hx hb hG inGX11 hown hK hP 0 rfl rfl 2 (by decide) (hG _ wd_397) (fun _ h9 => h9) rfl dX11_event_1 ?_
  refine lv_iload_n hx hb dX11_event_4 rfl (lv_at hl 1 rfl) ?_
  refine lv_iload_n hx hb dX11_event_5 rfl (lv_at hl 2 rfl) ?_
  obtain ⟨hPc, hDc, hFc⟩ := nv_sub3 (wc := [(h3, .inr (2, [.ref h6, .ref h7, .ref h2, .int x4, .int x5, .int x6, .int x7, .int x8])), (h7, .inr (3, [.ref h8, .ref h9, .int x9])), (h8, .inl (y0, 40, .inl f0)), (h9, .inl (y1, 40, .inl f1))]) hP hD hS hA [1, 2, 3, 4] (by decide) rfl
  have hKc := hK.sub (tys' := [(y0, .int), (y1, .int)]) [0, 1] rfl
  refine va_calli (va_runV (As := [.int x0, .int x1]) (rest := []) ⟨hx, hb, hml, hown, hG⟩ (cX2_expect_1 l dC dI h3 h6 h7 h2 h8 h9 y0 y1 s.heap.size x0 x1 x4 x5 x6 x7 x8 x9 f0 f1 ix8 ix9) (cwV 2 hG (gV wd_834 wd_835 wd_836 wd_6 wd_837) rfl rfl rfl (by decide +kernel) ⟨Nat.le_of_ble_eq_true rfl, Nat.le_of_ble_eq_true rfl⟩) ⟨fun a U g mk q => by obtain ⟨q0, q1, qP, qK, qD⟩ := q; exact ⟨q0, q1, qP, va_K.moved (u := U) (U := U.calling g mk a) (Vm.Alike.refl U.vm) qK, qD⟩, va_recv hKc hPc (ci := 2) (q0 := 0) rfl rfl, fun U hU hW => ⟨rfl, by rw [hU], by rw [hU]; exact hPc, va_K.moved hW.alike hKc, hDc.weaken (fun _ _ _ _ => trivial)⟩⟩ rfl rfl hl.1 rfl (lv_room (Nat.le_of_ble_eq_true rfl)) dX11_event_6 ⟨by decide, by decide⟩) hS (fun q _ h => hFc q h) hFc (fun r1 u2 t H1 locs ht hvm hw hB hz1 hk1 hS => ?_)
  obtain ⟨u2_0, u2_1, u2_2⟩ := u2
  have hw : iv r1 (-1) 40 ∧ iv u2_0 0 40 ∧ True := hw
  obtain ⟨ir1, iu2_0, -⟩ := hw
  obtain ⟨hP1, hK1, hD1⟩ := hB
  rw [ht] at hP1
  have hK1 := va_K.moved hvm.symm hK1
  obtain ⟨hP, hD⟩ := nv_join (wf := [(h0, .inr (11, [.ref h1, .ref h2, .ref h3, .ref h4, .ref h5, .int x2, .int x3])), (h3, .inr (2, [.ref h6, .ref h7, .ref h2, .int x4, .int x5, .int x6, .int x7, .int x8])), (h7, .inr (3, [.ref h8, .ref h9, .int u2_0])), (h8, .inl (y0, 40, .inl u2_1)), (h9, .inl (y1, 40, .inl u2_2))]) hP hD [1, 2, 3, 4] [0] rfl rfl (by decide) (by decide) hk1 hFc hP1 hD1 rfl
  have hK := (hK.sub (tys' := []) [] rfl).app hK1
  generalize H1 = H at hP hS ⊢
  have hK : va_K (dC, dI) vwCl [(y0, .int), (y1, .int)] s := hK
  rw [hQ]
  obtain ⟨hP9, hD9⟩ := nv_sub2 (wc := [(h0, .inr (11, [.ref h1, .ref h2, .ref h3, .ref h4, .ref h5, .int x2, .int x3])), (h3, .inr (2, [.ref h6, .ref h7, .ref h2, .int x4, .int x5, .int x6, .int x7, .int x8])), (h7, .inr (3, [.ref h8, .ref h9, .int u2_0])), (h8, .inl (y0, 40, .inl u2_1)), (h9, .inl (y1, 40, .inl u2_2))]) hP hD [0, 1, 2, 3, 4] (by decide) rfl
  have hK9 := hK.sub (tys' := [(y0, .int), (y1, .int)]) [0, 1] rfl
  exact W.iret (v := r1) hx hb hr (fun t ht hW => ⟨⟨r1, (u2_0, u2_1, u2_2), rfl, ⟨iv_w ir1 (by decide) (by decide), iv_w iu2_0 (by decide) (by decide), trivial⟩, by rw [ht]; exact hP9, va_K.moved hW.alike hK9, hD9⟩, hS.F ht⟩) hS.2.2 dX11_event_9
