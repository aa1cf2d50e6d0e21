set_option maxHeartbeats 100000000 in
set_option maxRecDepth 100000 in
theorem cX12_list_1 (l : Launch) (dC : Nat → ClassId) (dI : Nat → Nat → Nat) (h0 h1 h2 h3 h4 h5 h6 h7 h8 h9 h10 h11 h12 h13 h14 h15 h16 h17 : Nat) (y0 y1 y2 y3 y4 y5 : ClassId) (sz : Nat) (x0 x1 x2 x3 x4 x5 x6 x7 x8 x9 x10 x11 x12 x13 x14 x15 x16 x17 x18 x19 x20 x21 x22 x23 x24 x25 x26 x27 x28 x29 x30 x31 x32 x33 x34 x35 x36 x37 x38 x39 x40 x41 x42 x43 x44 x45 x46 x47 x48 x49 x50 x51 x52 x53 x54 : Int32) (z0 : Int64) (f0 f1 f2 f3 f4 : Nat → Int32) (g0 : Nat → Int64) (ix16 : iv x16 0 1) (ix17 : iv x17 0 40) (ix22 : iv x22 0 65535) (ix23 : iv x23 0 1) (ix24 : iv x24 0 1) (ix25 : iv x25 0 2600) (ix26 : iv x26 0 2600) (ix27 : iv x27 0 2500) (ix28 : iv x28 0 2500) (ix32 : iv x32 0 1048575) (ix33 : iv x33 0 60) (ix34 : iv x34 0 60) (ix35 : iv x35 0 1) (ix36 : iv x36 0 1) (ix37 : iv x37 0 65535) (ix42 : iv x42 0 5200) (ix43 : iv x43 0 70800) (ix47 : iv x47 0 1) (ix48 : iv x48 0 1) (ix50 : iv x50 0 100) (ix54 : iv x54 0 1) (if2 : ∀ j, iv (f2 j) (-128) 127) (if3 : ∀ j, iv (f3 j) 0 48) (if4 : ∀ j, iv (f4 j) (-128) 127) (kf3_0 : f3 0 = 0) (kf3_1 : f3 1 = 1) (kf3_2 : f3 2 = 2) (kf3_3 : f3 3 = 3) (kf3_4 : f3 4 = 4) (kf3_5 : f3 5 = 5) (kf3_6 : f3 6 = 6) (kf3_7 : f3 7 = 7) (kf3_8 : f3 8 = 8) (kf3_9 : f3 9 = 9) (kf3_10 : f3 10 = 10) (kf3_11 : f3 11 = 11) (kf3_12 : f3 12 = 20) (kf3_13 : f3 13 = 21) (kf3_14 : f3 14 = 22) (kf3_15 : f3 15 = 23) (kf3_16 : f3 16 = 24) (kf3_17 : f3 17 = 25) (kf3_18 : f3 18 = 30) (kf3_19 : f3 19 = 31) (kf3_20 : f3 20 = 32) (kf3_21 : f3 21 = 33) (kf3_22 : f3 22 = 34) (kf3_23 : f3 23 = 35) (kf3_24 : f3 24 = 36) (kf3_25 : f3 25 = 37) (kf3_26 : f3 26 = 40) (kf3_27 : f3 27 = 41) (kf3_28 : f3 28 = 42) (kf3_29 : f3 29 = 43) (kf3_30 : f3 30 = 44) (kf3_31 : f3 31 = 45) (kf3_32 : f3 32 = 46) (kf3_33 : f3 33 = 47) (kf3_34 : f3 34 = 48) : Met l yX12_list (Cond.code yX12_list cX12_list 3 (some .int) :: lw_G) ({ frames := 8, cells := 0, slots := 0, locals := 179 }) (va_Pc [.ref h0, .int x0] (fun U => U.heap.size = sz ∧ va_P (dC, dI) vwCl [(h0, .inr (12, .int x1 :: .ref h1 :: .ref h2 :: .int x2 :: .int x3 :: .int x4 :: .int x5 :: .int x6 :: .int x7 :: .int x8 :: .int x9 :: .int x10 :: [.int x11, .int x12, .int x13, .int x14, .int x15, .int x16, .ref h3, .ref h4, .ref h5, .ref h6, .int x17, .int x18, .int x19, .int x20, .int x21, .int x22, .int x23, .int x24, .ref h7, .int x25, .int x26, .int x27, .int x28, .ref h8, .ref h9, .int x29, .int x30, .long z0, .int x31, .int x32, .ref h10, .ref h11, .ref h12, .ref h13, .ref h14, .int x33, .int x34, .int x35, .int x36, .int x37, .int x38, .int x39, .int x40, .int x41, .ref h15, .ref h16, .int x42, .int x43, .int x44, .int x45, .int x46, .int x47, .int x48, .int x49, .ref h17, .int x50, .int x51, .int x52, .int x53, .int x54])), (h3, .inl (y0, 3, .inl f0)), (h4, .inl (y1, 3, .inl f1)), (h1, .inl (y2, 65536, .inl f2)), (h9, .inl (y3, 35, .inl f3)), (h8, .inl (y4, 35, .inr (.inl g0))), (h17, .inl (y5, 100, .inl f4))] U.heap ∧ va_K (dC, dI) vwCl [(y0, .int), (y1, .int), (y2, .byte), (y3, .int), (y4, .long), (y5, .byte)] U ∧ va_D (fun _ => True) [(h0, .inr (12, .int x1 :: .ref h1 :: .ref h2 :: .int x2 :: .int x3 :: .int x4 :: .int x5 :: .int x6 :: .int x7 :: .int x8 :: .int x9 :: .int x10 :: [.int x11, .int x12, .int x13, .int x14, .int x15, .int x16, .ref h3, .ref h4, .ref h5, .ref h6, .int x17, .int x18, .int x19, .int x20, .int x21, .int x22, .int x23, .int x24, .ref h7, .int x25, .int x26, .int x27, .int x28, .ref h8, .ref h9, .int x29, .int x30, .long z0, .int x31, .int x32, .ref h10, .ref h11, .ref h12, .ref h13, .ref h14, .int x33, .int x34, .int x35, .int x36, .int x37, .int x38, .int x39, .int x40, .int x41, .ref h15, .ref h16, .int x42, .int x43, .int x44, .int x45, .int x46, .int x47, .int x48, .int x49, .ref h17, .int x50, .int x51, .int x52, .int x53, .int x54])), (h3, .inl (y0, 3, .inl f0)), (h4, .inl (y1, 3, .inl f1)), (h1, .inl (y2, 65536, .inl f2)), (h9, .inl (y3, 35, .inl f3)), (h8, .inl (y4, 35, .inr (.inl g0))), (h17, .inl (y5, 100, .inl f4))])) (va_Qi (fun (r : Int32) (u : Int32 × Int32 × Int32 × Int32 × Int32 × Int32 × (Nat → Int32)) => iv r 0 100 ∧ iv u.1 0 1 ∧ iv u.2.1 0 100 ∧ iv u.2.2.2.2.2.1 0 1 ∧ (∀ j, iv (u.2.2.2.2.2.2 j) (-128) 127) ∧ True) (fun (u : Int32 × Int32 × Int32 × Int32 × Int32 × Int32 × (Nat → Int32)) (t : State) => va_P (dC, dI) vwCl [(h0, .inr (12, .int u.1 :: .ref h1 :: .ref h2 :: .int x2 :: .int x3 :: .int x4 :: .int x5 :: .int x6 :: .int x7 :: .int x8 :: .int x9 :: .int x10 :: [.int x11, .int x12, .int x13, .int x14, .int x15, .int x16, .ref h3, .ref h4, .ref h5, .ref h6, .int x17, .int x18, .int x19, .int x20, .int x21, .int x22, .int x23, .int x24, .ref h7, .int x25, .int x26, .int x27, .int x28, .ref h8, .ref h9, .int x29, .int x30, .long z0, .int x31, .int x32, .ref h10, .ref h11, .ref h12, .ref h13, .ref h14, .int x33, .int x34, .int x35, .int x36, .int x37, .int x38, .int x39, .int x40, .int x41, .ref h15, .ref h16, .int x42, .int x43, .int x44, .int x45, .int x46, .int x47, .int x48, .int x49, .ref h17, .int u.2.1, .int u.2.2.1, .int u.2.2.2.1, .int u.2.2.2.2.1, .int u.2.2.2.2.2.1])), (h3, .inl (y0, 3, .inl f0)), (h4, .inl (y1, 3, .inl f1)), (h1, .inl (y2, 65536, .inl f2)), (h9, .inl (y3, 35, .inl f3)), (h8, .inl (y4, 35, .inr (.inl g0))), (h17, .inl (y5, 100, .inl u.2.2.2.2.2.2))] t.heap ∧ va_K (dC, dI) vwCl [(y0, .int), (y1, .int), (y2, .byte), (y3, .int), (y4, .long), (y5, .byte)] t ∧ va_D (va_A [(h0, .inr (12, .int x1 :: .ref h1 :: .ref h2 :: .int x2 :: .int x3 :: .int x4 :: .int x5 :: .int x6 :: .int x7 :: .int x8 :: .int x9 :: .int x10 :: [.int x11, .int x12, .int x13, .int x14, .int x15, .int x16, .ref h3, .ref h4, .ref h5, .ref h6, .int x17, .int x18, .int x19, .int x20, .int x21, .int x22, .int x23, .int x24, .ref h7, .int x25, .int x26, .int x27, .int x28, .ref h8, .ref h9, .int x29, .int x30, .long z0, .int x31, .int x32, .ref h10, .ref h11, .ref h12, .ref h13, .ref h14, .int x33, .int x34, .int x35, .int x36, .int x37, .int x38, .int x39, .int x40, .int x41, .ref h15, .ref h16, .int x42, .int x43, .int x44, .int x45, .int x46, .int x47, .int x48, .int x49, .ref h17, .int x50, .int x51, .int x52, .int x53, .int x54])), (h3, .inl (y0, 3, .inl f0)), (h4, .inl (y1, 3, .inl f1)), (h1, .inl (y2, 65536, .inl f2)), (h9, .inl (y3, 35, .inl f3)), (h8, .inl (y4, 35, .inr (.inl g0))), (h17, .inl (y5, 100, .inl f4))] sz) [(h0, .inr (12, .int u.1 :: .ref h1 :: .ref h2 :: .int x2 :: .int x3 :: .int x4 :: .int x5 :: .int x6 :: .int x7 :: .int x8 :: .int x9 :: .int x10 :: [.int x11, .int x12, .int x13, .int x14, .int x15, .int x16, .ref h3, .ref h4, .ref h5, .ref h6, .int x17, .int x18, .int x19, .int x20, .int x21, .int x22, .int x23, .int x24, .ref h7, .int x25, .int x26, .int x27, .int x28, .ref h8, .ref h9, .int x29, .int x30, .long z0, .int x31, .int x32, .ref h10, .ref h11, .ref h12, .ref h13, .ref h14, .int x33, .int x34, .int x35, .int x36, .int x37, .int x38, .int x39, .int x40, .int x41, .ref h15, .ref h16, .int x42, .int x43, .int x44, .int x45, .int x46, .int x47, .int x48, .int x49, .ref h17, .int u.2.1, .int u.2.2.1, .int u.2.2.2.1, .int u.2.2.2.2.1, .int u.2.2.2.2.2.1])), (h3, .inl (y0, 3, .inl f0)), (h4, .inl (y1, 3, .inl f1)), (h1, .inl (y2, 65536, .inl f2)), (h9, .inl (y3, 35, .inl f3)), (h8, .inl (y4, 35, .inr (.inl g0))), (h17, .inl (y5, 100, .inl u.2.2.2.2.2.2))]) (va_A [(h0, .inr (12, .int x1 :: .ref h1 :: .ref h2 :: .int x2 :: .int x3 :: .int x4 :: .int x5 :: .int x6 :: .int x7 :: .int x8 :: .int x9 :: .int x10 :: [.int x11, .int x12, .int x13, .int x14, .int x15, .int x16, .ref h3, .ref h4, .ref h5, .ref h6, .int x17, .int x18, .int x19, .int x20, .int x21, .int x22, .int x23, .int x24, .ref h7, .int x25, .int x26, .int x27, .int x28, .ref h8, .ref h9, .int x29, .int x30, .long z0, .int x31, .int x32, .ref h10, .ref h11, .ref h12, .ref h13, .ref h14, .int x33, .int x34, .int x35, .int x36, .int x37, .int x38, .int x39, .int x40, .int x41, .ref h15, .ref h16, .int x42, .int x43, .int x44, .int x45, .int x46, .int x47, .int x48, .int x49, .ref h17, .int x50, .int x51, .int x52, .int x53, .int x54])), (h3, .inl (y0, 3, .inl f0)), (h4, .inl (y1, 3, .inl f1)), (h1, .inl (y2, 65536, .inl f2)), (h9, .inl (y3, 35, .inl f3)), (h8, .inl (y4, 35, .inr (.inl g0))), (h17, .inl (y5, 100, .inl f4))] sz)) 0 0 (va_A [(h0, .inr (12, .int x1 :: .ref h1 :: .ref h2 :: .int x2 :: .int x3 :: .int x4 :: .int x5 :: .int x6 :: .int x7 :: .int x8 :: .int x9 :: .int x10 :: [.int x11, .int x12, .int x13, .int x14, .int x15, .int x16, .ref h3, .ref h4, .ref h5, .ref h6, .int x17, .int x18, .int x19, .int x20, .int x21, .int x22, .int x23, .int x24, .ref h7, .int x25, .int x26, .int x27, .int x28, .ref h8, .ref h9, .int x29, .int x30, .long z0, .int x31, .int x32, .ref h10, .ref h11, .ref h12, .ref h13, .ref h14, .int x33, .int x34, .int x35, .int x36, .int x37, .int x38, .int x39, .int x40, .int x41, .ref h15, .ref h16, .int x42, .int x43, .int x44, .int x45, .int x46, .int x47, .int x48, .int x49, .ref h17, .int x50, .int x51, .int x52, .int x53, .int x54])), (h3, .inl (y0, 3, .inl f0)), (h4, .inl (y1, 3, .inl f1)), (h1, .inl (y2, 65536, .inl f2)), (h9, .inl (y3, 35, .inl f3)), (h8, .inl (y4, 35, .inr (.inl g0))), (h17, .inl (y5, 100, .inl f4))] sz) := by
  refine Met.ofW (cc := cX12_list) (maxL := 3) (ret := (some .int)) (by decide) rfl ?_
  intro p e s m args below meth c s₁ B hml hv
  obtain ⟨rfl, hsz, hP, hK, hD0⟩ := hv
  have hx := B.exec
  have hb := B.bytes
  have hr := B.returns
  have hts0 := atoms_spec (ws := Cond.code yX12_list cX12_list 3 (some .int) :: lw_G) B.pre
  have hG : ∀ w ∈ lw_G, w.before _ s = true := fun w h => hts0 w (List.mem_cons_of_mem _ h)
  have hown : s.vm.findClass RX12 = some m.cls := findClass_of_methodNamed B.named
  have hlocks := B.notSynchronized
  subst hsz
  have hD := hD0.self (sz := s.heap.size)
  generalize hAe : va_A [(h0, .inr (12, .int x1 :: .ref h1 :: .ref h2 :: .int x2 :: .int x3 :: .int x4 :: .int x5 :: .int x6 :: .int x7 :: .int x8 :: .int x9 :: .int x10 :: [.int x11, .int x12, .int x13, .int x14, .int x15, .int x16, .ref h3, .ref h4, .ref h5, .ref h6, .int x17, .int x18, .int x19, .int x20, .int x21, .int x22, .int x23, .int x24, .ref h7, .int x25, .int x26, .int x27, .int x28, .ref h8, .ref h9, .int x29, .int x30, .long z0, .int x31, .int x32, .ref h10, .ref h11, .ref h12, .ref h13, .ref h14, .int x33, .int x34, .int x35, .int x36, .int x37, .int x38, .int x39, .int x40, .int x41, .ref h15, .ref h16, .int x42, .int x43, .int x44, .int x45, .int x46, .int x47, .int x48, .int x49, .ref h17, .int x50, .int x51, .int x52, .int x53, .int x54])), (h3, .inl (y0, 3, .inl f0)), (h4, .inl (y1, 3, .inl f1)), (h1, .inl (y2, 65536, .inl f2)), (h9, .inl (y3, 35, .inl f3)), (h8, .inl (y4, 35, .inr (.inl g0))), (h17, .inl (y5, 100, .inl f4))] s.heap.size = A at hD ⊢
  have hA : ∀ q : Nat, s.heap.size ≤ q → A q := fun q h => by rw [← hAe]; exact Or.inr h
  have hS : va_S A s.heap s.heap [] := va_S.rf
  have hP : va_P (dC, dI) vwCl [(h0, .inr (12, .int x1 :: .ref h1 :: .ref h2 :: .int x2 :: .int x3 :: .int x4 :: .int x5 :: .int x6 :: .int x7 :: .int x8 :: .int x9 :: .int x10 :: [.int x11, .int x12, .int x13, .int x14, .int x15, .int x16, .ref h3, .ref h4, .ref h5, .ref h6, .int x17, .int x18, .int x19, .int x20, .int x21, .int x22, .int x23, .int x24, .ref h7, .int x25, .int x26, .int x27, .int x28, .ref h8, .ref h9, .int x29, .int x30, .long z0, .int x31, .int x32, .ref h10, .ref h11, .ref h12, .ref h13, .ref h14, .int x33, .int x34, .int x35, .int x36, .int x37, .int x38, .int x39, .int x40, .int x41, .ref h15, .ref h16, .int x42, .int x43, .int x44, .int x45, .int x46, .int x47, .int x48, .int x49, .ref h17, .int x50, .int x51, .int x52, .int x53, .int x54])), (h3, .inl (y0, 3, .inl f0)), (h4, .inl (y1, 3, .inl f1)), (h1, .inl (y2, 65536, .inl f2)), (h9, .inl (y3, 35, .inl f3)), (h8, .inl (y4, 35, .inr (.inl g0))), (h17, .inl (y5, 100, .inl f4))] s.heap := hP
  have hl := lv_entry ([.ref h0, .int x0]) (n := 3) (Nat.le_of_ble_eq_true rfl)
  rw [lg_entry_eq]
  generalize (lg_sl ([.ref h0, .int x0]) ++ List.replicate (3 - (lg_sl ([.ref h0, .int x0])).length) Slot.unset).toArray = ls at hl ⊢
  have hl : lv_has ls 3 [(0, .ref h0), (1, .int x0)] := hl
  generalize ([.ref h0, .int x0] : List Value).toArray = ar at hG ⊢
  refine wq (fun Q hQ => ?_)
  refine lv_aload_n hx hb dX12_list_0 rfl (lv_at hl 0 rfl) ?_
  refine lv_iload_n hx hb dX12_list_1 rfl (lv_at hl 1 rfl) ?_
  refine lv_if_lt (tgt := 11) hx hb dX12_list_2 (by decide) (fun c1 => ?_) (fun c1 => ?_)
  · skip
    have j2 : iv x0 (-2147483648) (-1) := iv_ltL (iv_any x0) (by decide : iv 0 0 0) c1 (by decide)
    refine lv_iconst (v := 1) hx hb dX12_list_11 (by decide) ?_
    refine lv_goto (tgt := 16) hx hb dX12_list_12 (by decide) ?_
    obtain ⟨hPc, hDc, hFc⟩ := nv_sub3 (wc := [(h0, .inr (12, .int x1 :: .ref h1 :: .ref h2 :: .int x2 :: .int x3 :: .int x4 :: .int x5 :: .int x6 :: .int x7 :: .int x8 :: .int x9 :: .int x10 :: [.int x11, .int x12, .int x13, .int x14, .int x15, .int x16, .ref h3, .ref h4, .ref h5, .ref h6, .int x17, .int x18, .int x19, .int x20, .int x21, .int x22, .int x23, .int x24, .ref h7, .int x25, .int x26, .int x27, .int x28, .ref h8, .ref h9, .int x29, .int x30, .long z0, .int x31, .int x32, .ref h10, .ref h11, .ref h12, .ref h13, .ref h14, .int x33, .int x34, .int x35, .int x36, .int x37, .int x38, .int x39, .int x40, .int x41, .ref h15, .ref h16, .int x42, .int x43, .int x44, .int x45, .int x46, .int x47, .int x48, .int x49, .ref h17, .int x50, .int x51, .int x52, .int x53, .int x54]))]) hP hD hS hA [0] (by decide) rfl
    have hKc := hK.sub (tys' := []) [] rfl
    refine va_calli (va_runV (As := [.int 1]) (rest := []) ⟨hx, hb, hml, hown, hG⟩ (cX12_throwsIf_1 l dC dI h0 h1 h2 h3 h4 h5 h6 h7 h8 h9 h10 h11 h12 h13 h14 h15 h16 h17 s.heap.size x1 x2 x3 x4 x5 x6 x7 x8 x9 x10 x11 x12 x13 x14 x15 x16 x17 x18 x19 x20 x21 x22 x23 x24 x25 x26 x27 x28 x29 x30 x31 x32 x33 x34 x35 x36 x37 x38 x39 x40 x41 x42 x43 x44 x45 x46 x47 x48 x49 x50 x51 x52 x53 x54 z0 ix16 ix17 ix22 ix23 ix24 ix25 ix26 ix27 ix28 ix32 ix33 ix34 ix35 ix36 ix37 ix42 ix43 ix47 ix48 ix50 ix54) (cwV 1 hG (gV wd_1562 wd_1564 wp_71 wd_17 wd_1565) rfl rfl rfl (by decide +kernel) ⟨Nat.le_of_ble_eq_true rfl, Nat.le_of_ble_eq_true rfl⟩) ⟨fun a U g mk q => by obtain ⟨q0, q1, qP, qK, qD⟩ := q; exact ⟨q0, q1, qP, va_K.moved (u := U) (U := U.calling g mk a) (Vm.Alike.refl U.vm) qK, qD⟩, va_recv hKc hPc (ci := 12) (q0 := 0) rfl rfl, fun U hU hW => ⟨rfl, by rw [hU], by rw [hU]; exact hPc, va_K.moved hW.alike hKc, hDc.weaken (fun _ _ _ _ => trivial)⟩⟩ rfl rfl hl.1 rfl (lv_room (Nat.le_of_ble_eq_true rfl)) dX12_list_16 ⟨by decide, by decide⟩) hS (fun q _ h => hFc q h) hFc (fun r3 u4 t H1 locs ht hvm hw hB hz1 hk1 hS => ?_)
    have hw : r3 = 1 ∧ True := hw
    obtain ⟨er3, -⟩ := hw
    obtain ⟨hP1, hK1, hD1⟩ := hB
    rw [ht] at hP1
    have hK1 := va_K.moved hvm.symm hK1
    obtain ⟨hP, hD⟩ := nv_join (wf := [(h3, .inl (y0, 3, .inl f0)), (h4, .inl (y1, 3, .inl f1)), (h1, .inl (y2, 65536, .inl f2)), (h9, .inl (y3, 35, .inl f3)), (h8, .inl (y4, 35, .inr (.inl g0))), (h17, .inl (y5, 100, .inl f4)), (h0, .inr (12, .int 1 :: .ref h1 :: .ref h2 :: .int x2 :: .int x3 :: .int x4 :: .int x5 :: .int x6 :: .int x7 :: .int x8 :: .int x9 :: .int x10 :: [.int x11, .int x12, .int x13, .int x14, .int x15, .int x16, .ref h3, .ref h4, .ref h5, .ref h6, .int x17, .int x18, .int x19, .int x20, .int x21, .int x22, .int x23, .int x24, .ref h7, .int x25, .int x26, .int x27, .int x28, .ref h8, .ref h9, .int x29, .int x30, .long z0, .int x31, .int x32, .ref h10, .ref h11, .ref h12, .ref h13, .ref h14, .int x33, .int x34, .int x35, .int x36, .int x37, .int x38, .int x39, .int x40, .int x41, .ref h15, .ref h16, .int x42, .int x43, .int x44, .int x45, .int x46, .int x47, .int x48, .int x49, .ref h17, .int x50, .int x51, .int x52, .int x53, .int x54]))]) hP hD [0] [1, 2, 3, 4, 5, 6] rfl rfl (by decide) (by decide) hk1 hFc hP1 hD1 rfl
    have hK := (hK.sub (tys' := [(y0, .int), (y1, .int), (y2, .byte), (y3, .int), (y4, .long), (y5, .byte)]) [0, 1, 2, 3, 4, 5] rfl).app hK1
    generalize H1 = H at hP hS ⊢
    have hK : va_K (dC, dI) vwCl [(y0, .int), (y1, .int), (y2, .byte), (y3, .int), (y4, .long), (y5, .byte)] s := hK
    clear hKc hPc hDc hFc hP1 hD1 hK1 hk1 hz1
    subst er3
    refine lv_if_eq (tgt := 24) hx hb dX12_list_19 (by decide) (fun c => absurd c (by decide)) (fun _ => ?_)
    refine lv_iconst (v := 0) hx hb dX12_list_22 (by decide) ?_
    rw [hQ]
    obtain ⟨hP9, hD9⟩ := nv_sub2 (wc := [(h0, .inr (12, .int 1 :: .ref h1 :: .ref h2 :: .int x2 :: .int x3 :: .int x4 :: .int x5 :: .int x6 :: .int x7 :: .int x8 :: .int x9 :: .int x10 :: [.int x11, .int x12, .int x13, .int x14, .int x15, .int x16, .ref h3, .ref h4, .ref h5, .ref h6, .int x17, .int x18, .int x19, .int x20, .int x21, .int x22, .int x23, .int x24, .ref h7, .int x25, .int x26, .int x27, .int x28, .ref h8, .ref h9, .int x29, .int x30, .long z0, .int x31, .int x32, .ref h10, .ref h11, .ref h12, .ref h13, .ref h14, .int x33, .int x34, .int x35, .int x36, .int x37, .int x38, .int x39, .int x40, .int x41, .ref h15, .ref h16, .int x42, .int x43, .int x44, .int x45, .int x46, .int x47, .int x48, .int x49, .ref h17, .int x50, .int x51, .int x52, .int x53, .int x54])), (h3, .inl (y0, 3, .inl f0)), (h4, .inl (y1, 3, .inl f1)), (h1, .inl (y2, 65536, .inl f2)), (h9, .inl (y3, 35, .inl f3)), (h8, .inl (y4, 35, .inr (.inl g0))), (h17, .inl (y5, 100, .inl f4))]) hP hD [6, 0, 1, 2, 3, 4, 5] (by decide) rfl
    have hK9 := hK.sub (tys' := [(y0, .int), (y1, .int), (y2, .byte), (y3, .int), (y4, .long), (y5, .byte)]) [0, 1, 2, 3, 4, 5] rfl
    exact W.iret (v := 0) hx hb hr (fun t ht hW => ⟨⟨0, (1, x50, x51, x52, x53, x54, f4), rfl, ⟨iv_w (by decide : iv 0 0 0) (by decide) (by decide), iv_w (by decide : iv 1 1 1) (by decide) (by decide), iv_w ix50 (by decide) (by decide), iv_w ix54 (by decide) (by decide), (fun j => iv_w (if4 j) (by decide) (by decide)), trivial⟩, by rw [ht]; exact hP9, va_K.moved hW.alike hK9, hD9⟩, hS.F ht⟩) hS.2.2 dX12_list_23
  · skip
    have j5 : iv x0 0 2147483647 := iv_nltL (iv_any x0) (by decide : iv 0 0 0) c1 (by decide)
    refine lv_iload_n hx hb dX12_list_5 rfl (lv_at hl 1 rfl) ?_
    refine lv_ldc hx hb hown (hG _ wd_1553) dX12_list_6 ?_
    refine lv_icmp_le (tgt := 15) hx hb dX12_list_8 (by decide) (fun c6 => ?_) (fun c6 => ?_)
    · skip
      have j7 : iv x0 0 65535 := iv_leL j5 (by decide : iv 65535 65535 65535) c6 (by decide)
      refine lv_iconst (v := 0) hx hb dX12_list_15 (by decide) ?_
      obtain ⟨hPc, hDc, hFc⟩ := nv_sub3 (wc := [(h0, .inr (12, .int x1 :: .ref h1 :: .ref h2 :: .int x2 :: .int x3 :: .int x4 :: .int x5 :: .int x6 :: .int x7 :: .int x8 :: .int x9 :: .int x10 :: [.int x11, .int x12, .int x13, .int x14, .int x15, .int x16, .ref h3, .ref h4, .ref h5, .ref h6, .int x17, .int x18, .int x19, .int x20, .int x21, .int x22, .int x23, .int x24, .ref h7, .int x25, .int x26, .int x27, .int x28, .ref h8, .ref h9, .int x29, .int x30, .long z0, .int x31, .int x32, .ref h10, .ref h11, .ref h12, .ref h13, .ref h14, .int x33, .int x34, .int x35, .int x36, .int x37, .int x38, .int x39, .int x40, .int x41, .ref h15, .ref h16, .int x42, .int x43, .int x44, .int x45, .int x46, .int x47, .int x48, .int x49, .ref h17, .int x50, .int x51, .int x52, .int x53, .int x54]))]) hP hD hS hA [0] (by decide) rfl
      have hKc := hK.sub (tys' := []) [] rfl
      refine va_calli (va_runV (As := [.int 0]) (rest := []) ⟨hx, hb, hml, hown, hG⟩ (cX12_throwsIf_2 l dC dI h0 h1 h2 h3 h4 h5 h6 h7 h8 h9 h10 h11 h12 h13 h14 h15 h16 h17 s.heap.size x1 x2 x3 x4 x5 x6 x7 x8 x9 x10 x11 x12 x13 x14 x15 x16 x17 x18 x19 x20 x21 x22 x23 x24 x25 x26 x27 x28 x29 x30 x31 x32 x33 x34 x35 x36 x37 x38 x39 x40 x41 x42 x43 x44 x45 x46 x47 x48 x49 x50 x51 x52 x53 x54 z0 ix16 ix17 ix22 ix23 ix24 ix25 ix26 ix27 ix28 ix32 ix33 ix34 ix35 ix36 ix37 ix42 ix43 ix47 ix48 ix50 ix54) (cwV 1 hG (gV wd_1562 wd_1564 wp_71 wd_17 wd_1565) rfl rfl rfl (by decide +kernel) ⟨Nat.le_of_ble_eq_true rfl, Nat.le_of_ble_eq_true rfl⟩) ⟨fun a U g mk q => by obtain ⟨q0, q1, qP, qK, qD⟩ := q; exact ⟨q0, q1, qP, va_K.moved (u := U) (U := U.calling g mk a) (Vm.Alike.refl U.vm) qK, qD⟩, va_recv hKc hPc (ci := 12) (q0 := 0) rfl rfl, fun U hU hW => ⟨rfl, by rw [hU], by rw [hU]; exact hPc, va_K.moved hW.alike hKc, hDc.weaken (fun _ _ _ _ => trivial)⟩⟩ rfl rfl hl.1 rfl (lv_room (Nat.le_of_ble_eq_true rfl)) dX12_list_16 ⟨by decide, by decide⟩) hS (fun q _ h => hFc q h) hFc (fun r8 u9 t H1 locs ht hvm hw hB hz1 hk1 hS => ?_)
      have hw : r8 = 0 ∧ True := hw
      obtain ⟨er8, -⟩ := hw
      obtain ⟨hP1, hK1, hD1⟩ := hB
      rw [ht] at hP1
      have hK1 := va_K.moved hvm.symm hK1
      obtain ⟨hP, hD⟩ := nv_join (wf := [(h3, .inl (y0, 3, .inl f0)), (h4, .inl (y1, 3, .inl f1)), (h1, .inl (y2, 65536, .inl f2)), (h9, .inl (y3, 35, .inl f3)), (h8, .inl (y4, 35, .inr (.inl g0))), (h17, .inl (y5, 100, .inl f4)), (h0, .inr (12, .int 0 :: .ref h1 :: .ref h2 :: .int x2 :: .int x3 :: .int x4 :: .int x5 :: .int x6 :: .int x7 :: .int x8 :: .int x9 :: .int x10 :: [.int x11, .int x12, .int x13, .int x14, .int x15, .int x16, .ref h3, .ref h4, .ref h5, .ref h6, .int x17, .int x18, .int x19, .int x20, .int x21, .int x22, .int x23, .int x24, .ref h7, .int x25, .int x26, .int x27, .int x28, .ref h8, .ref h9, .int x29, .int x30, .long z0, .int x31, .int x32, .ref h10, .ref h11, .ref h12, .ref h13, .ref h14, .int x33, .int x34, .int x35, .int x36, .int x37, .int x38, .int x39, .int x40, .int x41, .ref h15, .ref h16, .int x42, .int x43, .int x44, .int x45, .int x46, .int x47, .int x48, .int x49, .ref h17, .int x50, .int x51, .int x52, .int x53, .int x54]))]) hP hD [0] [1, 2, 3, 4, 5, 6] rfl rfl (by decide) (by decide) hk1 hFc hP1 hD1 rfl
      have hK := (hK.sub (tys' := [(y0, .int), (y1, .int), (y2, .byte), (y3, .int), (y4, .long), (y5, .byte)]) [0, 1, 2, 3, 4, 5] rfl).app hK1
      generalize H1 = H at hP hS ⊢
      have hK : va_K (dC, dI) vwCl [(y0, .int), (y1, .int), (y2, .byte), (y3, .int), (y4, .long), (y5, .byte)] s := hK
      clear hKc hPc hDc hFc hP1 hD1 hK1 hk1 hz1
      subst er8
      refine lv_if_eq (tgt := 24) hx hb dX12_list_19 (by decide) (fun _ => ?_) (fun c => absurd (by decide) c)
      refine lv_aload_n hx hb dX12_list_24 rfl (lv_at hl 0 rfl) ?_
      refine lv_iload_n hx hb dX12_list_25 rfl (lv_at hl 1 rfl) ?_
      refine lv_ldc hx hb hown (hG _ wd_1528) dX12_list_26 ?_
      refine lv_iand hx hb dX12_list_28 ?_
      refine lv_topi (fun v10 ev10 => ?_)
      have iv10 : iv v10 0 65534 := iv_eq ev10 (iv_and (x := x0) (iv_w (by decide : iv 65534 65534 65534) (by decide) (by decide) : iv 65534 0 65534))
      refine va_put (D := (dC, dI)) (ci := 12) (v := .int v10) (ty := .int) (C := RX12) (T := TX12) (N := 72) hx hb hG inGX12 tyX12 tyX12_ok nmX12 hown hK hP hD hS 6 rfl rfl 69 (by decide) (hG _ wd_1376) (fun _ h9 => h9) rfl (by decide +kernel) rfl rfl (Nat.le_of_ble_eq_true rfl) dX12_list_29 (fun H locs hP hD hS => ?_)
      obtain ⟨hP, hD⟩ := nv_eq (ws' := [(h3, .inl (y0, 3, .inl f0)), (h4, .inl (y1, 3, .inl f1)), (h1, .inl (y2, 65536, .inl f2)), (h9, .inl (y3, 35, .inl f3)), (h8, .inl (y4, 35, .inr (.inl g0))), (h17, .inl (y5, 100, .inl f4)), (h0, .inr (12, .int 0 :: .ref h1 :: .ref h2 :: .int x2 :: .int x3 :: .int x4 :: .int x5 :: .int x6 :: .int x7 :: .int x8 :: .int x9 :: .int x10 :: [.int x11, .int x12, .int x13, .int x14, .int x15, .int x16, .ref h3, .ref h4, .ref h5, .ref h6, .int x17, .int x18, .int x19, .int x20, .int x21, .int x22, .int x23, .int x24, .ref h7, .int x25, .int x26, .int x27, .int x28, .ref h8, .ref h9, .int x29, .int x30, .long z0, .int x31, .int x32, .ref h10, .ref h11, .ref h12, .ref h13, .ref h14, .int x33, .int x34, .int x35, .int x36, .int x37, .int x38, .int x39, .int x40, .int x41, .ref h15, .ref h16, .int x42, .int x43, .int x44, .int x45, .int x46, .int x47, .int x48, .int x49, .ref h17, .int x50, .int x51, .int v10, .int x53, .int x54]))]) hP hD rfl
      refine lv_aload_n hx hb dX12_list_32 rfl (lv_at hl 0 rfl) ?_
      refine lv_aload_n hx hb dX12_list_33 rfl (lv_at hl 0 rfl) ?_
      refine va_get (D := (dC, dI)) (ci := 12) (v := .int v10) (C := RX12) (T := TX12) (N := 72) hx hb hG inGX12 hown hK hP 6 rfl rfl 69 (by decide) (hG _ wd_1376) (fun _ h9 => h9) rfl dX12_list_34 ?_
      refine lv_iconst (v := 2) hx hb dX12_list_37 (by decide) ?_
      refine lv_iadd hx hb dX12_list_38 ?_
      refine lv_topi (fun v11 ev11 => ?_)
      have iv11 : iv v11 2 65536 := iv_eq ev11 (iv_add iv10 (by decide : iv 2 2 2) (by decide) (by decide))
      have tv11 : v11.toInt = v10.toInt + 2 := iv_addT ev11 iv10 (by decide) (by decide) (by decide)
      refine va_put (D := (dC, dI)) (ci := 12) (v := .int v11) (ty := .int) (C := RX12) (T := TX12) (N := 72) hx hb hG inGX12 tyX12 tyX12_ok nmX12 hown hK hP hD hS 6 rfl rfl 70 (by decide) (hG _ wd_1377) (fun _ h9 => h9) rfl (by decide +kernel) rfl rfl (Nat.le_of_ble_eq_true rfl) dX12_list_39 (fun H locs hP hD hS => ?_)
      obtain ⟨hP, hD⟩ := nv_eq (ws' := [(h3, .inl (y0, 3, .inl f0)), (h4, .inl (y1, 3, .inl f1)), (h1, .inl (y2, 65536, .inl f2)), (h9, .inl (y3, 35, .inl f3)), (h8, .inl (y4, 35, .inr (.inl g0))), (h17, .inl (y5, 100, .inl f4)), (h0, .inr (12, .int 0 :: .ref h1 :: .ref h2 :: .int x2 :: .int x3 :: .int x4 :: .int x5 :: .int x6 :: .int x7 :: .int x8 :: .int x9 :: .int x10 :: [.int x11, .int x12, .int x13, .int x14, .int x15, .int x16, .ref h3, .ref h4, .ref h5, .ref h6, .int x17, .int x18, .int x19, .int x20, .int x21, .int x22, .int x23, .int x24, .ref h7, .int x25, .int x26, .int x27, .int x28, .ref h8, .ref h9, .int x29, .int x30, .long z0, .int x31, .int x32, .ref h10, .ref h11, .ref h12, .ref h13, .ref h14, .int x33, .int x34, .int x35, .int x36, .int x37, .int x38, .int x39, .int x40, .int x41, .ref h15, .ref h16, .int x42, .int x43, .int x44, .int x45, .int x46, .int x47, .int x48, .int x49, .ref h17, .int x50, .int x51, .int v10, .int v11, .int x54]))]) hP hD rfl
      refine lv_aload_n hx hb dX12_list_42 rfl (lv_at hl 0 rfl) ?_
      refine lv_iconst (v := 0) hx hb dX12_list_43 (by decide) ?_
      refine va_put (D := (dC, dI)) (ci := 12) (v := .int 0) (ty := .int) (C := RX12) (T := TX12) (N := 72) hx hb hG inGX12 tyX12 tyX12_ok nmX12 hown hK hP hD hS 6 rfl rfl 67 (by decide) (hG _ wd_1374) (fun _ h9 => h9) rfl (by decide +kernel) rfl rfl (Nat.le_of_ble_eq_true rfl) dX12_list_44 (fun H locs hP hD hS => ?_)
      obtain ⟨hP, hD⟩ := nv_eq (ws' := [(h3, .inl (y0, 3, .inl f0)), (h4, .inl (y1, 3, .inl f1)), (h1, .inl (y2, 65536, .inl f2)), (h9, .inl (y3, 35, .inl f3)), (h8, .inl (y4, 35, .inr (.inl g0))), (h17, .inl (y5, 100, .inl f4)), (h0, .inr (12, .int 0 :: .ref h1 :: .ref h2 :: .int x2 :: .int x3 :: .int x4 :: .int x5 :: .int x6 :: .int x7 :: .int x8 :: .int x9 :: .int x10 :: [.int x11, .int x12, .int x13, .int x14, .int x15, .int x16, .ref h3, .ref h4, .ref h5, .ref h6, .int x17, .int x18, .int x19, .int x20, .int x21, .int x22, .int x23, .int x24, .ref h7, .int x25, .int x26, .int x27, .int x28, .ref h8, .ref h9, .int x29, .int x30, .long z0, .int x31, .int x32, .ref h10, .ref h11, .ref h12, .ref h13, .ref h14, .int x33, .int x34, .int x35, .int x36, .int x37, .int x38, .int x39, .int x40, .int x41, .ref h15, .ref h16, .int x42, .int x43, .int x44, .int x45, .int x46, .int x47, .int x48, .int x49, .ref h17, .int 0, .int x51, .int v10, .int v11, .int x54]))]) hP hD rfl
      refine lv_aload_n hx hb dX12_list_47 rfl (lv_at hl 0 rfl) ?_
      refine lv_aload_n hx hb dX12_list_48 rfl (lv_at hl 0 rfl) ?_
      refine va_get (D := (dC, dI)) (ci := 12) (v := .int v10) (C := RX12) (T := TX12) (N := 72) hx hb hG inGX12 hown hK hP 6 rfl rfl 69 (by decide) (hG _ wd_1376) (fun _ h9 => h9) rfl dX12_list_49 ?_
      obtain ⟨hPc, hDc, hFc⟩ := nv_sub3 (wc := [(h0, .inr (12, .int 0 :: .ref h1 :: .ref h2 :: .int x2 :: .int x3 :: .int x4 :: .int x5 :: .int x6 :: .int x7 :: .int x8 :: .int x9 :: .int x10 :: [.int x11, .int x12, .int x13, .int x14, .int x15, .int x16, .ref h3, .ref h4, .ref h5, .ref h6, .int x17, .int x18, .int x19, .int x20, .int x21, .int x22, .int x23, .int x24, .ref h7, .int x25, .int x26, .int x27, .int x28, .ref h8, .ref h9, .int x29, .int x30, .long z0, .int x31, .int x32, .ref h10, .ref h11, .ref h12, .ref h13, .ref h14, .int x33, .int x34, .int x35, .int x36, .int x37, .int x38, .int x39, .int x40, .int x41, .ref h15, .ref h16, .int x42, .int x43, .int x44, .int x45, .int x46, .int x47, .int x48, .int x49, .ref h17, .int 0, .int x51, .int v10, .int v11, .int x54])), (h3, .inl (y0, 3, .inl f0)), (h4, .inl (y1, 3, .inl f1)), (h1, .inl (y2, 65536, .inl f2))]) hP hD hS hA [6, 0, 1, 2] (by decide) rfl
      have hKc := hK.sub (tys' := [(y0, .int), (y1, .int), (y2, .byte)]) [0, 1, 2] rfl
      refine va_calli (va_runV (As := [.int v10]) (rest := []) ⟨hx, hb, hml, hown, hG⟩ (cX12_peekWord_1 l dC dI h0 h1 h2 h3 h4 h5 h6 h7 h8 h9 h10 h11 h12 h13 h14 h15 h16 h17 y0 y1 y2 H.size v10 0 x2 x3 x4 x5 x6 x7 x8 x9 x10 x11 x12 x13 x14 x15 x16 x17 x18 x19 x20 x21 x22 x23 x24 x25 x26 x27 x28 x29 x30 x31 x32 x33 x34 x35 x36 x37 x38 x39 x40 x41 x42 x43 x44 x45 x46 x47 x48 x49 0 x51 v10 v11 x54 z0 f0 f1 f2 ix16 ix17 ix22 ix23 ix24 ix25 ix26 ix27 ix28 ix32 ix33 ix34 ix35 ix36 ix37 ix42 ix43 ix47 ix48 (iv_w (by decide : iv 0 0 0) (by decide) (by decide)) ix54 if2) (cwV 1 hG (gV wd_1529 wd_1531 wp_65 wd_17 wd_1532) rfl rfl rfl (by decide +kernel) ⟨Nat.le_of_ble_eq_true rfl, Nat.le_of_ble_eq_true rfl⟩) ⟨fun a U g mk q => by obtain ⟨q0, q1, qP, qK, qD⟩ := q; exact ⟨q0, q1, qP, va_K.moved (u := U) (U := U.calling g mk a) (Vm.Alike.refl U.vm) qK, qD⟩, va_recv hKc hPc (ci := 12) (q0 := 0) rfl rfl, fun U hU hW => ⟨rfl, by rw [hU], by rw [hU]; exact hPc, va_K.moved hW.alike hKc, hDc.weaken (fun _ _ _ _ => trivial)⟩⟩ rfl rfl hl.1 rfl (lv_room (Nat.le_of_ble_eq_true rfl)) dX12_list_52 ⟨by decide, by decide⟩) hS (fun q _ h => hFc q h) hFc (fun r12 u13 t H1 locs ht hvm hw hB hz1 hk1 hS => ?_)
      obtain ⟨hP1, hK1, hD1⟩ := hB
      rw [ht] at hP1
      have hK1 := va_K.moved hvm.symm hK1
      obtain ⟨hP, hD⟩ := nv_join (wf := [(h9, .inl (y3, 35, .inl f3)), (h8, .inl (y4, 35, .inr (.inl g0))), (h17, .inl (y5, 100, .inl f4)), (h0, .inr (12, .int 0 :: .ref h1 :: .ref h2 :: .int x2 :: .int x3 :: .int x4 :: .int x5 :: .int x6 :: .int x7 :: .int x8 :: .int x9 :: .int x10 :: [.int x11, .int x12, .int x13, .int x14, .int x15, .int x16, .ref h3, .ref h4, .ref h5, .ref h6, .int x17, .int x18, .int x19, .int x20, .int x21, .int x22, .int x23, .int x24, .ref h7, .int x25, .int x26, .int x27, .int x28, .ref h8, .ref h9, .int x29, .int x30, .long z0, .int x31, .int x32, .ref h10, .ref h11, .ref h12, .ref h13, .ref h14, .int x33, .int x34, .int x35, .int x36, .int x37, .int x38, .int x39, .int x40, .int x41, .ref h15, .ref h16, .int x42, .int x43, .int x44, .int x45, .int x46, .int x47, .int x48, .int x49, .ref h17, .int 0, .int x51, .int v10, .int v11, .int x54])), (h3, .inl (y0, 3, .inl f0)), (h4, .inl (y1, 3, .inl f1)), (h1, .inl (y2, 65536, .inl f2))]) hP hD [6, 0, 1, 2] [3, 4, 5] rfl rfl (by decide) (by decide) hk1 hFc hP1 hD1 rfl
      have hK := (hK.sub (tys' := [(y3, .int), (y4, .long), (y5, .byte)]) [3, 4, 5] rfl).app hK1
      generalize H1 = H at hP hS ⊢
      have hK : va_K (dC, dI) vwCl [(y3, .int), (y4, .long), (y5, .byte), (y0, .int), (y1, .int), (y2, .byte)] s := hK
      clear hKc hPc hDc hFc hP1 hD1 hK1 hk1 hz1 hw
      refine lv_istore_n (lv' := [(2, .int r12), (0, .ref h0), (1, .int x0)]) hx hb dX12_list_55 rfl hl (by decide) rfl (fun ls hl => ?_)
      refine lv_aload_n hx hb dX12_list_56 rfl (lv_at hl 1 rfl) ?_
      refine lv_iload_n hx hb dX12_list_57 rfl (lv_at hl 0 rfl) ?_
      obtain ⟨hPc, hDc, hFc⟩ := nv_sub3 (wc := []) hP hD hS hA [] (by decide) rfl
      have hKc := hK.sub (tys' := []) [] rfl
      refine va_calli (va_runS (As := [.int r12]) (rest := [.ref h0]) ⟨hx, hb, hml, hown, hG⟩ (cX12_isCode_1 l dC dI H.size r12) (va_cwS 1 hG (gS wd_1628 wd_1629 wd_17 wd_1630) rfl rfl rfl (by decide +kernel) ⟨Nat.le_of_ble_eq_true rfl, Nat.le_of_ble_eq_true rfl⟩) ⟨fun a U g mk q => by obtain ⟨q0, q1, qP, qK, qD⟩ := q; exact ⟨q0, q1, qP, va_K.moved (u := U) (U := U.calling g mk a) (Vm.Alike.refl U.vm) qK, qD⟩, fun U hU hW => ⟨rfl, by rw [hU], by rw [hU]; exact hPc, va_K.moved hW.alike hKc, hDc.weaken (fun _ _ _ _ => trivial)⟩⟩ rfl rfl hl.1 rfl (lv_room (Nat.le_of_ble_eq_true rfl)) dX12_list_58 ⟨by decide, by decide⟩) hS (fun q _ h => hFc q h) hFc (fun r14 u15 t H1 locs ht hvm hw hB hz1 hk1 hS => ?_)
      have hw : iv r14 0 1 ∧ True := hw
      obtain ⟨ir14, -⟩ := hw
      obtain ⟨hP1, hK1, hD1⟩ := hB
      rw [ht] at hP1
      have hK1 := va_K.moved hvm.symm hK1
      obtain ⟨hP, hD⟩ := nv_join (wf := [(h9, .inl (y3, 35, .inl f3)), (h8, .inl (y4, 35, .inr (.inl g0))), (h17, .inl (y5, 100, .inl f4)), (h0, .inr (12, .int 0 :: .ref h1 :: .ref h2 :: .int x2 :: .int x3 :: .int x4 :: .int x5 :: .int x6 :: .int x7 :: .int x8 :: .int x9 :: .int x10 :: [.int x11, .int x12, .int x13, .int x14, .int x15, .int x16, .ref h3, .ref h4, .ref h5, .ref h6, .int x17, .int x18, .int x19, .int x20, .int x21, .int x22, .int x23, .int x24, .ref h7, .int x25, .int x26, .int x27, .int x28, .ref h8, .ref h9, .int x29, .int x30, .long z0, .int x31, .int x32, .ref h10, .ref h11, .ref h12, .ref h13, .ref h14, .int x33, .int x34, .int x35, .int x36, .int x37, .int x38, .int x39, .int x40, .int x41, .ref h15, .ref h16, .int x42, .int x43, .int x44, .int x45, .int x46, .int x47, .int x48, .int x49, .ref h17, .int 0, .int x51, .int v10, .int v11, .int x54])), (h3, .inl (y0, 3, .inl f0)), (h4, .inl (y1, 3, .inl f1)), (h1, .inl (y2, 65536, .inl f2))]) hP hD [] [0, 1, 2, 3, 4, 5, 6] rfl rfl (by decide) (by decide) hk1 hFc hP1 hD1 rfl
      have hK := (hK.sub (tys' := [(y3, .int), (y4, .long), (y5, .byte), (y0, .int), (y1, .int), (y2, .byte)]) [0, 1, 2, 3, 4, 5] rfl).app hK1
      generalize H1 = H at hP hS ⊢
      have hK : va_K (dC, dI) vwCl [(y3, .int), (y4, .long), (y5, .byte), (y0, .int), (y1, .int), (y2, .byte)] s := hK
      clear hKc hPc hDc hFc hP1 hD1 hK1 hk1 hz1
      refine va_put (D := (dC, dI)) (ci := 12) (v := .int r14) (ty := .boolean) (C := RX12) (T := TX12) (N := 72) hx hb hG inGX12 tyX12 tyX12_ok nmX12 hown hK hP hD hS 3 rfl rfl 71 (by decide) (hG _ wd_1378) (fun _ h9 => h9) rfl (by decide +kernel) (iv_z (iv_w ir14 (by decide) (by decide))).1 (iv_z (iv_w ir14 (by decide) (by decide))).2 (Nat.le_of_ble_eq_true rfl) dX12_list_61 (fun H locs hP hD hS => ?_)
      obtain ⟨hP, hD⟩ := nv_eq (ws' := [(h9, .inl (y3, 35, .inl f3)), (h8, .inl (y4, 35, .inr (.inl g0))), (h17, .inl (y5, 100, .inl f4)), (h0, .inr (12, .int 0 :: .ref h1 :: .ref h2 :: .int x2 :: .int x3 :: .int x4 :: .int x5 :: .int x6 :: .int x7 :: .int x8 :: .int x9 :: .int x10 :: [.int x11, .int x12, .int x13, .int x14, .int x15, .int x16, .ref h3, .ref h4, .ref h5, .ref h6, .int x17, .int x18, .int x19, .int x20, .int x21, .int x22, .int x23, .int x24, .ref h7, .int x25, .int x26, .int x27, .int x28, .ref h8, .ref h9, .int x29, .int x30, .long z0, .int x31, .int x32, .ref h10, .ref h11, .ref h12, .ref h13, .ref h14, .int x33, .int x34, .int x35, .int x36, .int x37, .int x38, .int x39, .int x40, .int x41, .ref h15, .ref h16, .int x42, .int x43, .int x44, .int x45, .int x46, .int x47, .int x48, .int x49, .ref h17, .int 0, .int x51, .int v10, .int v11, .int r14])), (h3, .inl (y0, 3, .inl f0)), (h4, .inl (y1, 3, .inl f1)), (h1, .inl (y2, 65536, .inl f2))]) hP hD rfl
      refine lv_aload_n hx hb dX12_list_64 rfl (lv_at hl 1 rfl) ?_
      refine va_get (D := (dC, dI)) (ci := 12) (v := .int r14) (C := RX12) (T := TX12) (N := 72) hx hb hG inGX12 hown hK hP 3 rfl rfl 71 (by decide) (hG _ wd_1378) (fun _ h9 => h9) rfl dX12_list_65 ?_
      refine lv_if_eq (tgt := 76) hx hb dX12_list_68 (by decide) (fun c16 => ?_) (fun c16 => ?_)
      · skip
        have j17 : iv r14 0 0 := iv_eqc c16 (by decide)
        refine lv_aload_n hx hb dX12_list_76 rfl (lv_at hl 1 rfl) ?_
        refine va_get (D := (dC, dI)) (ci := 12) (v := .int r14) (C := RX12) (T := TX12) (N := 72) hx hb hG inGX12 hown hK hP 3 rfl rfl 71 (by decide) (hG _ wd_1378) (fun _ h9 => h9) rfl dX12_list_77 ?_
        refine lv_if_ne (tgt := 115) hx hb dX12_list_80 (by decide) (fun c => absurd c16 c) (fun _ => ?_)
        refine lv_aload_n hx hb dX12_list_83 rfl (lv_at hl 1 rfl) ?_
        refine lv_iconst (v := 0) hx hb dX12_list_84 (by decide) ?_
        refine va_put (D := (dC, dI)) (ci := 12) (v := .int 0) (ty := .int) (C := RX12) (T := TX12) (N := 72) hx hb hG inGX12 tyX12 tyX12_ok nmX12 hown hK hP hD hS 3 rfl rfl 67 (by decide) (hG _ wd_1374) (fun _ h9 => h9) rfl (by decide +kernel) rfl rfl (Nat.le_of_ble_eq_true rfl) dX12_list_85 (fun H locs hP hD hS => ?_)
        obtain ⟨hP, hD⟩ := nv_eq (ws' := [(h9, .inl (y3, 35, .inl f3)), (h8, .inl (y4, 35, .inr (.inl g0))), (h17, .inl (y5, 100, .inl f4)), (h0, .inr (12, .int 0 :: .ref h1 :: .ref h2 :: .int x2 :: .int x3 :: .int x4 :: .int x5 :: .int x6 :: .int x7 :: .int x8 :: .int x9 :: .int x10 :: [.int x11, .int x12, .int x13, .int x14, .int x15, .int x16, .ref h3, .ref h4, .ref h5, .ref h6, .int x17, .int x18, .int x19, .int x20, .int x21, .int x22, .int x23, .int x24, .ref h7, .int x25, .int x26, .int x27, .int x28, .ref h8, .ref h9, .int x29, .int x30, .long z0, .int x31, .int x32, .ref h10, .ref h11, .ref h12, .ref h13, .ref h14, .int x33, .int x34, .int x35, .int x36, .int x37, .int x38, .int x39, .int x40, .int x41, .ref h15, .ref h16, .int x42, .int x43, .int x44, .int x45, .int x46, .int x47, .int x48, .int x49, .ref h17, .int 0, .int x51, .int v10, .int v11, .int r14])), (h3, .inl (y0, 3, .inl f0)), (h4, .inl (y1, 3, .inl f1)), (h1, .inl (y2, 65536, .inl f2))]) hP hD rfl
        refine lv_aload_n hx hb dX12_list_88 rfl (lv_at hl 1 rfl) ?_
        refine lv_aload_n hx hb dX12_list_89 rfl (lv_at hl 1 rfl) ?_
        refine va_get (D := (dC, dI)) (ci := 12) (v := .int v10) (C := RX12) (T := TX12) (N := 72) hx hb hG inGX12 hown hK hP 3 rfl rfl 69 (by decide) (hG _ wd_1376) (fun _ h9 => h9) rfl dX12_list_90 ?_
        refine lv_iconst (v := 2) hx hb dX12_list_93 (by decide) ?_
        refine lv_iadd hx hb dX12_list_94 ?_
        refine lv_topi (fun v18 ev18 => ?_)
        have iv18 : iv v18 2 65536 := iv_eq ev18 (iv_add iv10 (by decide : iv 2 2 2) (by decide) (by decide))
        have tv18 : v18.toInt = v10.toInt + 2 := iv_addT ev18 iv10 (by decide) (by decide) (by decide)
        refine va_put (D := (dC, dI)) (ci := 12) (v := .int v18) (ty := .int) (C := RX12) (T := TX12) (N := 72) hx hb hG inGX12 tyX12 tyX12_ok nmX12 hown hK hP hD hS 3 rfl rfl 70 (by decide) (hG _ wd_1377) (fun _ h9 => h9) rfl (by decide +kernel) rfl rfl (Nat.le_of_ble_eq_true rfl) dX12_list_95 (fun H locs hP hD hS => ?_)
        obtain ⟨hP, hD⟩ := nv_eq (ws' := [(h9, .inl (y3, 35, .inl f3)), (h8, .inl (y4, 35, .inr (.inl g0))), (h17, .inl (y5, 100, .inl f4)), (h0, .inr (12, .int 0 :: .ref h1 :: .ref h2 :: .int x2 :: .int x3 :: .int x4 :: .int x5 :: .int x6 :: .int x7 :: .int x8 :: .int x9 :: .int x10 :: [.int x11, .int x12, .int x13, .int x14, .int x15, .int x16, .ref h3, .ref h4, .ref h5, .ref h6, .int x17, .int x18, .int x19, .int x20, .int x21, .int x22, .int x23, .int x24, .ref h7, .int x25, .int x26, .int x27, .int x28, .ref h8, .ref h9, .int x29, .int x30, .long z0, .int x31, .int x32, .ref h10, .ref h11, .ref h12, .ref h13, .ref h14, .int x33, .int x34, .int x35, .int x36, .int x37, .int x38, .int x39, .int x40, .int x41, .ref h15, .ref h16, .int x42, .int x43, .int x44, .int x45, .int x46, .int x47, .int x48, .int x49, .ref h17, .int 0, .int x51, .int v10, .int v18, .int r14])), (h3, .inl (y0, 3, .inl f0)), (h4, .inl (y1, 3, .inl f1)), (h1, .inl (y2, 65536, .inl f2))]) hP hD rfl
        refine lv_aload_n hx hb dX12_list_98 rfl (lv_at hl 1 rfl) ?_
        refine lv_bipush (v := 41) hx hb dX12_list_99 (by decide) ?_
        obtain ⟨hPc, hDc, hFc⟩ := nv_sub3 (wc := [(h0, .inr (12, .int 0 :: .ref h1 :: .ref h2 :: .int x2 :: .int x3 :: .int x4 :: .int x5 :: .int x6 :: .int x7 :: .int x8 :: .int x9 :: .int x10 :: [.int x11, .int x12, .int x13, .int x14, .int x15, .int x16, .ref h3, .ref h4, .ref h5, .ref h6, .int x17, .int x18, .int x19, .int x20, .int x21, .int x22, .int x23, .int x24, .ref h7, .int x25, .int x26, .int x27, .int x28, .ref h8, .ref h9, .int x29, .int x30, .long z0, .int x31, .int x32, .ref h10, .ref h11, .ref h12, .ref h13, .ref h14, .int x33, .int x34, .int x35, .int x36, .int x37, .int x38, .int x39, .int x40, .int x41, .ref h15, .ref h16, .int x42, .int x43, .int x44, .int x45, .int x46, .int x47, .int x48, .int x49, .ref h17, .int 0, .int x51, .int v10, .int v18, .int r14])), (h9, .inl (y3, 35, .inl f3)), (h8, .inl (y4, 35, .inr (.inl g0))), (h17, .inl (y5, 100, .inl f4))]) hP hD hS hA [3, 0, 1, 2] (by decide) rfl
        have hKc := hK.sub (tys' := [(y3, .int), (y4, .long), (y5, .byte)]) [0, 1, 2] rfl
        refine va_callv (va_runV (As := [.int 41]) (rest := []) ⟨hx, hb, hml, hown, hG⟩ (cX12_sayName_1 l dC dI h0 h1 h2 h3 h4 h5 h6 h7 h8 h9 h10 h11 h12 h13 h14 h15 h16 h17 y3 y4 y5 H.size 41 0 x2 x3 x4 x5 x6 x7 x8 x9 x10 x11 x12 x13 x14 x15 x16 x17 x18 x19 x20 x21 x22 x23 x24 x25 x26 x27 x28 x29 x30 x31 x32 x33 x34 x35 x36 x37 x38 x39 x40 x41 x42 x43 x44 x45 x46 x47 x48 x49 0 x51 v10 v18 r14 z0 f3 f4 g0 ix16 ix17 ix22 ix23 ix24 ix25 ix26 ix27 ix28 ix32 ix33 ix34 ix35 ix36 ix37 ix42 ix43 ix47 ix48 (iv_w (by decide : iv 0 0 0) (by decide) (by decide)) (iv_w j17 (by decide) (by decide)) if3 if4 kf3_0 kf3_1 kf3_2 kf3_3 kf3_4 kf3_5 kf3_6 kf3_7 kf3_8 kf3_9 kf3_10 kf3_11 kf3_12 kf3_13 kf3_14 kf3_15 kf3_16 kf3_17 kf3_18 kf3_19 kf3_20 kf3_21 kf3_22 kf3_23 kf3_24 kf3_25 kf3_26 kf3_27 kf3_28 kf3_29 kf3_30 kf3_31 kf3_32 kf3_33 kf3_34) (cwV 1 hG (gV wd_1830 wd_1832 wp_121 wd_17 wd_1833) rfl rfl rfl (by decide +kernel) ⟨Nat.le_of_ble_eq_true rfl, Nat.le_of_ble_eq_true rfl⟩) ⟨fun a U g mk q => by obtain ⟨q0, q1, qP, qK, qD⟩ := q; exact ⟨q0, q1, qP, va_K.moved (u := U) (U := U.calling g mk a) (Vm.Alike.refl U.vm) qK, qD⟩, va_recv hKc hPc (ci := 12) (q0 := 0) rfl rfl, fun U hU hW => ⟨rfl, by rw [hU], by rw [hU]; exact hPc, va_K.moved hW.alike hKc, hDc.weaken (fun _ _ _ _ => trivial)⟩⟩ rfl rfl hl.1 rfl (lv_room (Nat.le_of_ble_eq_true rfl)) dX12_list_101 ⟨by decide, by decide⟩) hS (fun q _ h => hFc q h) hFc (fun u20 t H1 locs ht hvm hw hB hz1 hk1 hS => ?_)
        obtain ⟨u20_0, u20_1⟩ := u20
        have hw : iv u20_0 0 100 ∧ (∀ j, iv (u20_1 j) (-128) 127) ∧ (u20_0.toInt ≤ (0 : Int32).toInt + 8) ∧ True := hw
        obtain ⟨iu20_0, iu20_1, op21, -⟩ := hw
        have kc0 : (0 : Int32).toInt = 0 := by decide
        obtain ⟨hP1, hK1, hD1⟩ := hB
        rw [ht] at hP1
        have hK1 := va_K.moved hvm.symm hK1
        obtain ⟨hP, hD⟩ := nv_join (wf := [(h3, .inl (y0, 3, .inl f0)), (h4, .inl (y1, 3, .inl f1)), (h1, .inl (y2, 65536, .inl f2)), (h0, .inr (12, .int 0 :: .ref h1 :: .ref h2 :: .int x2 :: .int x3 :: .int x4 :: .int x5 :: .int x6 :: .int x7 :: .int x8 :: .int x9 :: .int x10 :: [.int x11, .int x12, .int x13, .int x14, .int x15, .int x16, .ref h3, .ref h4, .ref h5, .ref h6, .int x17, .int x18, .int x19, .int x20, .int x21, .int x22, .int x23, .int x24, .ref h7, .int x25, .int x26, .int x27, .int x28, .ref h8, .ref h9, .int x29, .int x30, .long z0, .int x31, .int x32, .ref h10, .ref h11, .ref h12, .ref h13, .ref h14, .int x33, .int x34, .int x35, .int x36, .int x37, .int x38, .int x39, .int x40, .int x41, .ref h15, .ref h16, .int x42, .int x43, .int x44, .int x45, .int x46, .int x47, .int x48, .int x49, .ref h17, .int u20_0, .int x51, .int v10, .int v18, .int r14])), (h9, .inl (y3, 35, .inl f3)), (h8, .inl (y4, 35, .inr (.inl g0))), (h17, .inl (y5, 100, .inl u20_1))]) hP hD [3, 0, 1, 2] [4, 5, 6] rfl rfl (by decide) (by decide) hk1 hFc hP1 hD1 rfl
        have hK := (hK.sub (tys' := [(y0, .int), (y1, .int), (y2, .byte)]) [3, 4, 5] rfl).app hK1
        generalize H1 = H at hP hS ⊢
        have hK : va_K (dC, dI) vwCl [(y0, .int), (y1, .int), (y2, .byte), (y3, .int), (y4, .long), (y5, .byte)] s := hK
        clear hKc hPc hDc hFc hP1 hD1 hK1 hk1 hz1
        refine lv_aload_n hx hb dX12_list_104 rfl (lv_at hl 1 rfl) ?_
        refine lv_bipush (v := 32) hx hb dX12_list_105 (by decide) ?_
        have j22 : iv u20_0 0 99 := ⟨by omega, by omega⟩
        obtain ⟨hPc, hDc, hFc⟩ := nv_sub3 (wc := [(h0, .inr (12, .int 0 :: .ref h1 :: .ref h2 :: .int x2 :: .int x3 :: .int x4 :: .int x5 :: .int x6 :: .int x7 :: .int x8 :: .int x9 :: .int x10 :: [.int x11, .int x12, .int x13, .int x14, .int x15, .int x16, .ref h3, .ref h4, .ref h5, .ref h6, .int x17, .int x18, .int x19, .int x20, .int x21, .int x22, .int x23, .int x24, .ref h7, .int x25, .int x26, .int x27, .int x28, .ref h8, .ref h9, .int x29, .int x30, .long z0, .int x31, .int x32, .ref h10, .ref h11, .ref h12, .ref h13, .ref h14, .int x33, .int x34, .int x35, .int x36, .int x37, .int x38, .int x39, .int x40, .int x41, .ref h15, .ref h16, .int x42, .int x43, .int x44, .int x45, .int x46, .int x47, .int x48, .int x49, .ref h17, .int u20_0, .int x51, .int v10, .int v18, .int r14])), (h17, .inl (y5, 100, .inl u20_1))]) hP hD hS hA [3, 6] (by decide) rfl
        have hKc := hK.sub (tys' := [(y5, .byte)]) [5] rfl
        refine va_callv (va_runV (As := [.int 32]) (rest := []) ⟨hx, hb, hml, hown, hG⟩ (cX12_say_1 l dC dI h0 h1 h2 h3 h4 h5 h6 h7 h8 h9 h10 h11 h12 h13 h14 h15 h16 h17 y5 H.size 32 0 x2 x3 x4 x5 x6 x7 x8 x9 x10 x11 x12 x13 x14 x15 x16 x17 x18 x19 x20 x21 x22 x23 x24 x25 x26 x27 x28 x29 x30 x31 x32 x33 x34 x35 x36 x37 x38 x39 x40 x41 x42 x43 x44 x45 x46 x47 x48 x49 u20_0 x51 v10 v18 r14 z0 u20_1 ix16 ix17 ix22 ix23 ix24 ix25 ix26 ix27 ix28 ix32 ix33 ix34 ix35 ix36 ix37 ix42 ix43 ix47 ix48 j22 (iv_w j17 (by decide) (by decide)) iu20_1) (cwV 1 hG (gV wd_1834 wd_1836 wp_122 wd_17 wd_1837) rfl rfl rfl (by decide +kernel) ⟨Nat.le_of_ble_eq_true rfl, Nat.le_of_ble_eq_true rfl⟩) ⟨fun a U g mk q => by obtain ⟨q0, q1, qP, qK, qD⟩ := q; exact ⟨q0, q1, qP, va_K.moved (u := U) (U := U.calling g mk a) (Vm.Alike.refl U.vm) qK, qD⟩, va_recv hKc hPc (ci := 12) (q0 := 0) rfl rfl, fun U hU hW => ⟨rfl, by rw [hU], by rw [hU]; exact hPc, va_K.moved hW.alike hKc, hDc.weaken (fun _ _ _ _ => trivial)⟩⟩ rfl rfl hl.1 rfl (lv_room (Nat.le_of_ble_eq_true rfl)) dX12_list_107 ⟨by decide, by decide⟩) hS (fun q _ h => hFc q h) hFc (fun u24 t H1 locs ht hvm hw hB hz1 hk1 hS => ?_)
        obtain ⟨u24_0, u24_1⟩ := u24
        have hw : u24_0.toInt = u20_0.toInt + 1 ∧ iv u24_0 1 100 ∧ (∀ j, iv (u24_1 j) (-128) 127) ∧ True := hw
        obtain ⟨lu24_0, iu24_0, iu24_1, -⟩ := hw
        have mu24_0 : iv u24_0 1 100 := by have q9 := j22; exact ⟨by omega, by omega⟩
        obtain ⟨hP1, hK1, hD1⟩ := hB
        rw [ht] at hP1
        have hK1 := va_K.moved hvm.symm hK1
        obtain ⟨hP, hD⟩ := nv_join (wf := [(h3, .inl (y0, 3, .inl f0)), (h4, .inl (y1, 3, .inl f1)), (h1, .inl (y2, 65536, .inl f2)), (h9, .inl (y3, 35, .inl f3)), (h8, .inl (y4, 35, .inr (.inl g0))), (h0, .inr (12, .int 0 :: .ref h1 :: .ref h2 :: .int x2 :: .int x3 :: .int x4 :: .int x5 :: .int x6 :: .int x7 :: .int x8 :: .int x9 :: .int x10 :: [.int x11, .int x12, .int x13, .int x14, .int x15, .int x16, .ref h3, .ref h4, .ref h5, .ref h6, .int x17, .int x18, .int x19, .int x20, .int x21, .int x22, .int x23, .int x24, .ref h7, .int x25, .int x26, .int x27, .int x28, .ref h8, .ref h9, .int x29, .int x30, .long z0, .int x31, .int x32, .ref h10, .ref h11, .ref h12, .ref h13, .ref h14, .int x33, .int x34, .int x35, .int x36, .int x37, .int x38, .int x39, .int x40, .int x41, .ref h15, .ref h16, .int x42, .int x43, .int x44, .int x45, .int x46, .int x47, .int x48, .int x49, .ref h17, .int u24_0, .int x51, .int v10, .int v18, .int r14])), (h17, .inl (y5, 100, .inl u24_1))]) hP hD [3, 6] [0, 1, 2, 4, 5] rfl rfl (by decide) (by decide) hk1 hFc hP1 hD1 rfl
        have hK := (hK.sub (tys' := [(y0, .int), (y1, .int), (y2, .byte), (y3, .int), (y4, .long)]) [0, 1, 2, 3, 4] rfl).app hK1
        generalize H1 = H at hP hS ⊢
        have hK : va_K (dC, dI) vwCl [(y0, .int), (y1, .int), (y2, .byte), (y3, .int), (y4, .long), (y5, .byte)] s := hK
        clear hKc hPc hDc hFc hP1 hD1 hK1 hk1 hz1
        refine lv_aload_n hx hb dX12_list_110 rfl (lv_at hl 1 rfl) ?_
        refine lv_iload_n hx hb dX12_list_111 rfl (lv_at hl 0 rfl) ?_
        have j25 : iv u24_0 1 95 := ⟨by omega, by omega⟩
        obtain ⟨hPc, hDc, hFc⟩ := nv_sub3 (wc := [(h0, .inr (12, .int 0 :: .ref h1 :: .ref h2 :: .int x2 :: .int x3 :: .int x4 :: .int x5 :: .int x6 :: .int x7 :: .int x8 :: .int x9 :: .int x10 :: [.int x11, .int x12, .int x13, .int x14, .int x15, .int x16, .ref h3, .ref h4, .ref h5, .ref h6, .int x17, .int x18, .int x19, .int x20, .int x21, .int x22, .int x23, .int x24, .ref h7, .int x25, .int x26, .int x27, .int x28, .ref h8, .ref h9, .int x29, .int x30, .long z0, .int x31, .int x32, .ref h10, .ref h11, .ref h12, .ref h13, .ref h14, .int x33, .int x34, .int x35, .int x36, .int x37, .int x38, .int x39, .int x40, .int x41, .ref h15, .ref h16, .int x42, .int x43, .int x44, .int x45, .int x46, .int x47, .int x48, .int x49, .ref h17, .int u24_0, .int x51, .int v10, .int v18, .int r14])), (h17, .inl (y5, 100, .inl u24_1))]) hP hD hS hA [5, 6] (by decide) rfl
        have hKc := hK.sub (tys' := [(y5, .byte)]) [5] rfl
        refine va_callv (va_runV (As := [.int r12]) (rest := []) ⟨hx, hb, hml, hown, hG⟩ (cX12_sayNumber_1 l dC dI h0 h1 h2 h3 h4 h5 h6 h7 h8 h9 h10 h11 h12 h13 h14 h15 h16 h17 y5 H.size r12 0 x2 x3 x4 x5 x6 x7 x8 x9 x10 x11 x12 x13 x14 x15 x16 x17 x18 x19 x20 x21 x22 x23 x24 x25 x26 x27 x28 x29 x30 x31 x32 x33 x34 x35 x36 x37 x38 x39 x40 x41 x42 x43 x44 x45 x46 x47 x48 x49 u24_0 x51 v10 v18 r14 z0 u24_1 ix16 ix17 ix22 ix23 ix24 ix25 ix26 ix27 ix28 ix32 ix33 ix34 ix35 ix36 ix37 ix42 ix43 ix47 ix48 (iv_w j25 (by decide) (by decide)) (iv_w j17 (by decide) (by decide)) iu24_1) (cwV 1 hG (gV wd_1838 wd_1840 wp_123 wd_17 wd_1841) rfl rfl rfl (by decide +kernel) ⟨Nat.le_of_ble_eq_true rfl, Nat.le_of_ble_eq_true rfl⟩) ⟨fun a U g mk q => by obtain ⟨q0, q1, qP, qK, qD⟩ := q; exact ⟨q0, q1, qP, va_K.moved (u := U) (U := U.calling g mk a) (Vm.Alike.refl U.vm) qK, qD⟩, va_recv hKc hPc (ci := 12) (q0 := 0) rfl rfl, fun U hU hW => ⟨rfl, by rw [hU], by rw [hU]; exact hPc, va_K.moved hW.alike hKc, hDc.weaken (fun _ _ _ _ => trivial)⟩⟩ rfl rfl hl.1 rfl (lv_room (Nat.le_of_ble_eq_true rfl)) dX12_list_112 ⟨by decide, by decide⟩) hS (fun q _ h => hFc q h) hFc (fun u27 t H1 locs ht hvm hw hB hz1 hk1 hS => ?_)
        obtain ⟨u27_0, u27_1⟩ := u27
        have hw : iv u27_0 1 100 ∧ (∀ j, iv (u27_1 j) (-128) 127) ∧ (u27_0.toInt ≤ u24_0.toInt + 5) ∧ True := hw
        obtain ⟨iu27_0, iu27_1, op28, -⟩ := hw
        obtain ⟨hP1, hK1, hD1⟩ := hB
        rw [ht] at hP1
        have hK1 := va_K.moved hvm.symm hK1
        obtain ⟨hP, hD⟩ := nv_join (wf := [(h3, .inl (y0, 3, .inl f0)), (h4, .inl (y1, 3, .inl f1)), (h1, .inl (y2, 65536, .inl f2)), (h9, .inl (y3, 35, .inl f3)), (h8, .inl (y4, 35, .inr (.inl g0))), (h0, .inr (12, .int 0 :: .ref h1 :: .ref h2 :: .int x2 :: .int x3 :: .int x4 :: .int x5 :: .int x6 :: .int x7 :: .int x8 :: .int x9 :: .int x10 :: [.int x11, .int x12, .int x13, .int x14, .int x15, .int x16, .ref h3, .ref h4, .ref h5, .ref h6, .int x17, .int x18, .int x19, .int x20, .int x21, .int x22, .int x23, .int x24, .ref h7, .int x25, .int x26, .int x27, .int x28, .ref h8, .ref h9, .int x29, .int x30, .long z0, .int x31, .int x32, .ref h10, .ref h11, .ref h12, .ref h13, .ref h14, .int x33, .int x34, .int x35, .int x36, .int x37, .int x38, .int x39, .int x40, .int x41, .ref h15, .ref h16, .int x42, .int x43, .int x44, .int x45, .int x46, .int x47, .int x48, .int x49, .ref h17, .int u27_0, .int x51, .int v10, .int v18, .int r14])), (h17, .inl (y5, 100, .inl u27_1))]) hP hD [5, 6] [0, 1, 2, 3, 4] rfl rfl (by decide) (by decide) hk1 hFc hP1 hD1 rfl
        have hK := (hK.sub (tys' := [(y0, .int), (y1, .int), (y2, .byte), (y3, .int), (y4, .long)]) [0, 1, 2, 3, 4] rfl).app hK1
        generalize H1 = H at hP hS ⊢
        have hK : va_K (dC, dI) vwCl [(y0, .int), (y1, .int), (y2, .byte), (y3, .int), (y4, .long), (y5, .byte)] s := hK
        clear hKc hPc hDc hFc hP1 hD1 hK1 hk1 hz1
        refine lv_aload_n hx hb dX12_list_115 rfl (lv_at hl 1 rfl) ?_
        refine lv_aload_n hx hb dX12_list_116 rfl (lv_at hl 1 rfl) ?_
        refine va_get (D := (dC, dI)) (ci := 12) (v := .int v18) (C := RX12) (T := TX12) (N := 72) hx hb hG inGX12 hown hK hP 5 rfl rfl 70 (by decide) (hG _ wd_1377) (fun _ h9 => h9) rfl dX12_list_117 ?_
        refine lv_ldc hx hb hown (hG _ wd_1553) dX12_list_120 ?_
        refine lv_iand hx hb dX12_list_122 ?_
        refine lv_topi (fun v29 ev29 => ?_)
        have iv29 : iv v29 0 65535 := iv_eq ev29 (iv_and (x := v18) (iv_w (by decide : iv 65535 65535 65535) (by decide) (by decide) : iv 65535 0 65535))
        refine va_put (D := (dC, dI)) (ci := 12) (v := .int v29) (ty := .int) (C := RX12) (T := TX12) (N := 72) hx hb hG inGX12 tyX12 tyX12_ok nmX12 hown hK hP hD hS 5 rfl rfl 68 (by decide) (hG _ wd_1375) (fun _ h9 => h9) rfl (by decide +kernel) rfl rfl (Nat.le_of_ble_eq_true rfl) dX12_list_123 (fun H locs hP hD hS => ?_)
        obtain ⟨hP, hD⟩ := nv_eq (ws' := [(h3, .inl (y0, 3, .inl f0)), (h4, .inl (y1, 3, .inl f1)), (h1, .inl (y2, 65536, .inl f2)), (h9, .inl (y3, 35, .inl f3)), (h8, .inl (y4, 35, .inr (.inl g0))), (h0, .inr (12, .int 0 :: .ref h1 :: .ref h2 :: .int x2 :: .int x3 :: .int x4 :: .int x5 :: .int x6 :: .int x7 :: .int x8 :: .int x9 :: .int x10 :: [.int x11, .int x12, .int x13, .int x14, .int x15, .int x16, .ref h3, .ref h4, .ref h5, .ref h6, .int x17, .int x18, .int x19, .int x20, .int x21, .int x22, .int x23, .int x24, .ref h7, .int x25, .int x26, .int x27, .int x28, .ref h8, .ref h9, .int x29, .int x30, .long z0, .int x31, .int x32, .ref h10, .ref h11, .ref h12, .ref h13, .ref h14, .int x33, .int x34, .int x35, .int x36, .int x37, .int x38, .int x39, .int x40, .int x41, .ref h15, .ref h16, .int x42, .int x43, .int x44, .int x45, .int x46, .int x47, .int x48, .int x49, .ref h17, .int u27_0, .int v29, .int v10, .int v18, .int r14])), (h17, .inl (y5, 100, .inl u27_1))]) hP hD rfl
        refine lv_aload_n hx hb dX12_list_126 rfl (lv_at hl 1 rfl) ?_
        refine va_get (D := (dC, dI)) (ci := 12) (v := .int u27_0) (C := RX12) (T := TX12) (N := 72) hx hb hG inGX12 hown hK hP 5 rfl rfl 67 (by decide) (hG _ wd_1374) (fun _ h9 => h9) rfl dX12_list_127 ?_
        rw [hQ]
        obtain ⟨hP9, hD9⟩ := nv_sub2 (wc := [(h0, .inr (12, .int 0 :: .ref h1 :: .ref h2 :: .int x2 :: .int x3 :: .int x4 :: .int x5 :: .int x6 :: .int x7 :: .int x8 :: .int x9 :: .int x10 :: [.int x11, .int x12, .int x13, .int x14, .int x15, .int x16, .ref h3, .ref h4, .ref h5, .ref h6, .int x17, .int x18, .int x19, .int x20, .int x21, .int x22, .int x23, .int x24, .ref h7, .int x25, .int x26, .int x27, .int x28, .ref h8, .ref h9, .int x29, .int x30, .long z0, .int x31, .int x32, .ref h10, .ref h11, .ref h12, .ref h13, .ref h14, .int x33, .int x34, .int x35, .int x36, .int x37, .int x38, .int x39, .int x40, .int x41, .ref h15, .ref h16, .int x42, .int x43, .int x44, .int x45, .int x46, .int x47, .int x48, .int x49, .ref h17, .int u27_0, .int v29, .int v10, .int v18, .int r14])), (h3, .inl (y0, 3, .inl f0)), (h4, .inl (y1, 3, .inl f1)), (h1, .inl (y2, 65536, .inl f2)), (h9, .inl (y3, 35, .inl f3)), (h8, .inl (y4, 35, .inr (.inl g0))), (h17, .inl (y5, 100, .inl u27_1))]) hP hD [5, 0, 1, 2, 3, 4, 6] (by decide) rfl
        have hK9 := hK.sub (tys' := [(y0, .int), (y1, .int), (y2, .byte), (y3, .int), (y4, .long), (y5, .byte)]) [0, 1, 2, 3, 4, 5] rfl
        exact W.iret (v := u27_0) hx hb hr (fun t ht hW => ⟨⟨u27_0, (0, u27_0, v29, v10, v18, r14, u27_1), rfl, ⟨iv_w iu27_0 (by decide) (by decide), iv_w (by decide : iv 0 0 0) (by decide) (by decide), iv_w iu27_0 (by decide) (by decide), iv_w j17 (by decide) (by decide), (fun j => iv_w (iu27_1 j) (by decide) (by decide)), trivial⟩, by rw [ht]; exact hP9, va_K.moved hW.alike hK9, hD9⟩, hS.F ht⟩) hS.2.2 dX12_list_130
      · skip
        have j30 : iv r14 1 1 := iv_neLo ir14 (by decide : iv 0 0 0) c16 (by decide)
        refine lv_aload_n hx hb dX12_list_71 rfl (lv_at hl 1 rfl) ?_
        refine lv_iload_n hx hb dX12_list_72 rfl (lv_at hl 0 rfl) ?_
        obtain ⟨hPc, hDc, hFc⟩ := nv_sub3 (wc := [(h0, .inr (12, .int 0 :: .ref h1 :: .ref h2 :: .int x2 :: .int x3 :: .int x4 :: .int x5 :: .int x6 :: .int x7 :: .int x8 :: .int x9 :: .int x10 :: [.int x11, .int x12, .int x13, .int x14, .int x15, .int x16, .ref h3, .ref h4, .ref h5, .ref h6, .int x17, .int x18, .int x19, .int x20, .int x21, .int x22, .int x23, .int x24, .ref h7, .int x25, .int x26, .int x27, .int x28, .ref h8, .ref h9, .int x29, .int x30, .long z0, .int x31, .int x32, .ref h10, .ref h11, .ref h12, .ref h13, .ref h14, .int x33, .int x34, .int x35, .int x36, .int x37, .int x38, .int x39, .int x40, .int x41, .ref h15, .ref h16, .int x42, .int x43, .int x44, .int x45, .int x46, .int x47, .int x48, .int x49, .ref h17, .int 0, .int x51, .int v10, .int v11, .int r14])), (h9, .inl (y3, 35, .inl f3)), (h8, .inl (y4, 35, .inr (.inl g0))), (h17, .inl (y5, 100, .inl f4)), (h3, .inl (y0, 3, .inl f0)), (h4, .inl (y1, 3, .inl f1)), (h1, .inl (y2, 65536, .inl f2))]) hP hD hS hA [3, 0, 1, 2, 4, 5, 6] (by decide) rfl
        have hKc := hK.sub (tys' := [(y3, .int), (y4, .long), (y5, .byte), (y0, .int), (y1, .int), (y2, .byte)]) [0, 1, 2, 3, 4, 5] rfl
        refine va_callv (va_runV (As := [.int r12]) (rest := []) ⟨hx, hb, hml, hown, hG⟩ (cX12_spell_1 l dC dI h0 h1 h2 h3 h4 h5 h6 h7 h8 h9 h10 h11 h12 h13 h14 h15 h16 h17 y3 y4 y5 y0 y1 y2 H.size r12 0 x2 x3 x4 x5 x6 x7 x8 x9 x10 x11 x12 x13 x14 x15 x16 x17 x18 x19 x20 x21 x22 x23 x24 x25 x26 x27 x28 x29 x30 x31 x32 x33 x34 x35 x36 x37 x38 x39 x40 x41 x42 x43 x44 x45 x46 x47 x48 x49 0 x51 v10 v11 r14 z0 f3 f4 f0 f1 f2 g0 ix16 ix17 ix22 ix23 ix24 ix25 ix26 ix27 ix28 ix32 ix33 ix34 ix35 ix36 ix37 ix42 ix43 ix47 ix48 (iv_w (by decide : iv 0 0 0) (by decide) (by decide)) (iv_w j30 (by decide) (by decide)) if3 if4 if2 kf3_0 kf3_1 kf3_2 kf3_3 kf3_4 kf3_5 kf3_6 kf3_7 kf3_8 kf3_9 kf3_10 kf3_11 kf3_12 kf3_13 kf3_14 kf3_15 kf3_16 kf3_17 kf3_18 kf3_19 kf3_20 kf3_21 kf3_22 kf3_23 kf3_24 kf3_25 kf3_26 kf3_27 kf3_28 kf3_29 kf3_30 kf3_31 kf3_32 kf3_33 kf3_34) (cwV 1 hG (gV wd_1826 wd_1828 wp_120 wd_17 wd_1829) rfl rfl rfl (by decide +kernel) ⟨Nat.le_of_ble_eq_true rfl, Nat.le_of_ble_eq_true rfl⟩) ⟨fun a U g mk q => by obtain ⟨q0, q1, qP, qK, qD⟩ := q; exact ⟨q0, q1, qP, va_K.moved (u := U) (U := U.calling g mk a) (Vm.Alike.refl U.vm) qK, qD⟩, va_recv hKc hPc (ci := 12) (q0 := 0) rfl rfl, fun U hU hW => ⟨rfl, by rw [hU], by rw [hU]; exact hPc, va_K.moved hW.alike hKc, hDc.weaken (fun _ _ _ _ => trivial)⟩⟩ rfl rfl hl.1 rfl (lv_room (Nat.le_of_ble_eq_true rfl)) dX12_list_73 ⟨by decide, by decide⟩) hS (fun q _ h => hFc q h) hFc (fun u32 t H1 locs ht hvm hw hB hz1 hk1 hS => ?_)
        obtain ⟨u32_0, u32_1, u32_2, u32_3⟩ := u32
        have hw : iv u32_0 0 100 ∧ iv u32_2 0 1 ∧ (∀ j, iv (u32_3 j) (-128) 127) ∧ (u32_0.toInt ≤ (0 : Int32).toInt + 38) ∧ True := hw
        obtain ⟨iu32_0, iu32_2, iu32_3, op33, -⟩ := hw
        have kc0 : (0 : Int32).toInt = 0 := by decide
        obtain ⟨hP1, hK1, hD1⟩ := hB
        rw [ht] at hP1
        have hK1 := va_K.moved hvm.symm hK1
        obtain ⟨hP, hD⟩ := nv_join (wf := [(h0, .inr (12, .int 0 :: .ref h1 :: .ref h2 :: .int x2 :: .int x3 :: .int x4 :: .int x5 :: .int x6 :: .int x7 :: .int x8 :: .int x9 :: .int x10 :: [.int x11, .int x12, .int x13, .int x14, .int x15, .int x16, .ref h3, .ref h4, .ref h5, .ref h6, .int x17, .int x18, .int x19, .int x20, .int x21, .int x22, .int x23, .int x24, .ref h7, .int x25, .int x26, .int x27, .int x28, .ref h8, .ref h9, .int x29, .int x30, .long z0, .int x31, .int x32, .ref h10, .ref h11, .ref h12, .ref h13, .ref h14, .int x33, .int x34, .int x35, .int x36, .int x37, .int x38, .int x39, .int x40, .int x41, .ref h15, .ref h16, .int x42, .int x43, .int x44, .int x45, .int x46, .int x47, .int x48, .int x49, .ref h17, .int u32_0, .int x51, .int v10, .int u32_1, .int u32_2])), (h9, .inl (y3, 35, .inl f3)), (h8, .inl (y4, 35, .inr (.inl g0))), (h17, .inl (y5, 100, .inl u32_3)), (h3, .inl (y0, 3, .inl f0)), (h4, .inl (y1, 3, .inl f1)), (h1, .inl (y2, 65536, .inl f2))]) hP hD [3, 0, 1, 2, 4, 5, 6] [] rfl rfl (by decide) (by decide) hk1 hFc hP1 hD1 rfl
        have hK := (hK.sub (tys' := []) [] rfl).app hK1
        generalize H1 = H at hP hS ⊢
        have hK : va_K (dC, dI) vwCl [(y3, .int), (y4, .long), (y5, .byte), (y0, .int), (y1, .int), (y2, .byte)] s := hK
        clear hKc hPc hDc hFc hP1 hD1 hK1 hk1 hz1
        refine lv_aload_n hx hb dX12_list_76 rfl (lv_at hl 1 rfl) ?_
        refine va_get (D := (dC, dI)) (ci := 12) (v := .int u32_2) (C := RX12) (T := TX12) (N := 72) hx hb hG inGX12 hown hK hP 0 rfl rfl 71 (by decide) (hG _ wd_1378) (fun _ h9 => h9) rfl dX12_list_77 ?_
        refine lv_if_ne (tgt := 115) hx hb dX12_list_80 (by decide) (fun c34 => ?_) (fun c34 => ?_)
        · skip
          have j35 : iv u32_2 1 1 := iv_neLo iu32_2 (by decide : iv 0 0 0) c34 (by decide)
          refine lv_aload_n hx hb dX12_list_115 rfl (lv_at hl 1 rfl) ?_
          refine lv_aload_n hx hb dX12_list_116 rfl (lv_at hl 1 rfl) ?_
          refine va_get (D := (dC, dI)) (ci := 12) (v := .int u32_1) (C := RX12) (T := TX12) (N := 72) hx hb hG inGX12 hown hK hP 0 rfl rfl 70 (by decide) (hG _ wd_1377) (fun _ h9 => h9) rfl dX12_list_117 ?_
          refine lv_ldc hx hb hown (hG _ wd_1553) dX12_list_120 ?_
          refine lv_iand hx hb dX12_list_122 ?_
          refine lv_topi (fun v36 ev36 => ?_)
          have iv36 : iv v36 0 65535 := iv_eq ev36 (iv_and (x := u32_1) (iv_w (by decide : iv 65535 65535 65535) (by decide) (by decide) : iv 65535 0 65535))
          refine va_put (D := (dC, dI)) (ci := 12) (v := .int v36) (ty := .int) (C := RX12) (T := TX12) (N := 72) hx hb hG inGX12 tyX12 tyX12_ok nmX12 hown hK hP hD hS 0 rfl rfl 68 (by decide) (hG _ wd_1375) (fun _ h9 => h9) rfl (by decide +kernel) rfl rfl (Nat.le_of_ble_eq_true rfl) dX12_list_123 (fun H locs hP hD hS => ?_)
          obtain ⟨hP, hD⟩ := nv_eq (ws' := [(h0, .inr (12, .int 0 :: .ref h1 :: .ref h2 :: .int x2 :: .int x3 :: .int x4 :: .int x5 :: .int x6 :: .int x7 :: .int x8 :: .int x9 :: .int x10 :: [.int x11, .int x12, .int x13, .int x14, .int x15, .int x16, .ref h3, .ref h4, .ref h5, .ref h6, .int x17, .int x18, .int x19, .int x20, .int x21, .int x22, .int x23, .int x24, .ref h7, .int x25, .int x26, .int x27, .int x28, .ref h8, .ref h9, .int x29, .int x30, .long z0, .int x31, .int x32, .ref h10, .ref h11, .ref h12, .ref h13, .ref h14, .int x33, .int x34, .int x35, .int x36, .int x37, .int x38, .int x39, .int x40, .int x41, .ref h15, .ref h16, .int x42, .int x43, .int x44, .int x45, .int x46, .int x47, .int x48, .int x49, .ref h17, .int u32_0, .int v36, .int v10, .int u32_1, .int u32_2])), (h9, .inl (y3, 35, .inl f3)), (h8, .inl (y4, 35, .inr (.inl g0))), (h17, .inl (y5, 100, .inl u32_3)), (h3, .inl (y0, 3, .inl f0)), (h4, .inl (y1, 3, .inl f1)), (h1, .inl (y2, 65536, .inl f2))]) hP hD rfl
          refine lv_aload_n hx hb dX12_list_126 rfl (lv_at hl 1 rfl) ?_
          refine va_get (D := (dC, dI)) (ci := 12) (v := .int u32_0) (C := RX12) (T := TX12) (N := 72) hx hb hG inGX12 hown hK hP 0 rfl rfl 67 (by decide) (hG _ wd_1374) (fun _ h9 => h9) rfl dX12_list_127 ?_
          rw [hQ]
          obtain ⟨hP9, hD9⟩ := nv_sub2 (wc := [(h0, .inr (12, .int 0 :: .ref h1 :: .ref h2 :: .int x2 :: .int x3 :: .int x4 :: .int x5 :: .int x6 :: .int x7 :: .int x8 :: .int x9 :: .int x10 :: [.int x11, .int x12, .int x13, .int x14, .int x15, .int x16, .ref h3, .ref h4, .ref h5, .ref h6, .int x17, .int x18, .int x19, .int x20, .int x21, .int x22, .int x23, .int x24, .ref h7, .int x25, .int x26, .int x27, .int x28, .ref h8, .ref h9, .int x29, .int x30, .long z0, .int x31, .int x32, .ref h10, .ref h11, .ref h12, .ref h13, .ref h14, .int x33, .int x34, .int x35, .int x36, .int x37, .int x38, .int x39, .int x40, .int x41, .ref h15, .ref h16, .int x42, .int x43, .int x44, .int x45, .int x46, .int x47, .int x48, .int x49, .ref h17, .int u32_0, .int v36, .int v10, .int u32_1, .int u32_2])), (h3, .inl (y0, 3, .inl f0)), (h4, .inl (y1, 3, .inl f1)), (h1, .inl (y2, 65536, .inl f2)), (h9, .inl (y3, 35, .inl f3)), (h8, .inl (y4, 35, .inr (.inl g0))), (h17, .inl (y5, 100, .inl u32_3))]) hP hD [0, 4, 5, 6, 1, 2, 3] (by decide) rfl
          have hK9 := hK.sub (tys' := [(y0, .int), (y1, .int), (y2, .byte), (y3, .int), (y4, .long), (y5, .byte)]) [3, 4, 5, 0, 1, 2] rfl
          exact W.iret (v := u32_0) hx hb hr (fun t ht hW => ⟨⟨u32_0, (0, u32_0, v36, v10, u32_1, u32_2, u32_3), rfl, ⟨iv_w iu32_0 (by decide) (by decide), iv_w (by decide : iv 0 0 0) (by decide) (by decide), iv_w iu32_0 (by decide) (by decide), iv_w j35 (by decide) (by decide), (fun j => iv_w (iu32_3 j) (by decide) (by decide)), trivial⟩, by rw [ht]; exact hP9, va_K.moved hW.alike hK9, hD9⟩, hS.F ht⟩) hS.2.2 dX12_list_130
        · skip
          have j37 : iv u32_2 0 0 := iv_eqc c34 (by decide)
          refine lv_aload_n hx hb dX12_list_83 rfl (lv_at hl 1 rfl) ?_
          refine lv_iconst (v := 0) hx hb dX12_list_84 (by decide) ?_
          refine va_put (D := (dC, dI)) (ci := 12) (v := .int 0) (ty := .int) (C := RX12) (T := TX12) (N := 72) hx hb hG inGX12 tyX12 tyX12_ok nmX12 hown hK hP hD hS 0 rfl rfl 67 (by decide) (hG _ wd_1374) (fun _ h9 => h9) rfl (by decide +kernel) rfl rfl (Nat.le_of_ble_eq_true rfl) dX12_list_85 (fun H locs hP hD hS => ?_)
          obtain ⟨hP, hD⟩ := nv_eq (ws' := [(h0, .inr (12, .int 0 :: .ref h1 :: .ref h2 :: .int x2 :: .int x3 :: .int x4 :: .int x5 :: .int x6 :: .int x7 :: .int x8 :: .int x9 :: .int x10 :: [.int x11, .int x12, .int x13, .int x14, .int x15, .int x16, .ref h3, .ref h4, .ref h5, .ref h6, .int x17, .int x18, .int x19, .int x20, .int x21, .int x22, .int x23, .int x24, .ref h7, .int x25, .int x26, .int x27, .int x28, .ref h8, .ref h9, .int x29, .int x30, .long z0, .int x31, .int x32, .ref h10, .ref h11, .ref h12, .ref h13, .ref h14, .int x33, .int x34, .int x35, .int x36, .int x37, .int x38, .int x39, .int x40, .int x41, .ref h15, .ref h16, .int x42, .int x43, .int x44, .int x45, .int x46, .int x47, .int x48, .int x49, .ref h17, .int 0, .int x51, .int v10, .int u32_1, .int u32_2])), (h9, .inl (y3, 35, .inl f3)), (h8, .inl (y4, 35, .inr (.inl g0))), (h17, .inl (y5, 100, .inl u32_3)), (h3, .inl (y0, 3, .inl f0)), (h4, .inl (y1, 3, .inl f1)), (h1, .inl (y2, 65536, .inl f2))]) hP hD rfl
          refine lv_aload_n hx hb dX12_list_88 rfl (lv_at hl 1 rfl) ?_
          refine lv_aload_n hx hb dX12_list_89 rfl (lv_at hl 1 rfl) ?_
          refine va_get (D := (dC, dI)) (ci := 12) (v := .int v10) (C := RX12) (T := TX12) (N := 72) hx hb hG inGX12 hown hK hP 0 rfl rfl 69 (by decide) (hG _ wd_1376) (fun _ h9 => h9) rfl dX12_list_90 ?_
          refine lv_iconst (v := 2) hx hb dX12_list_93 (by decide) ?_
          refine lv_iadd hx hb dX12_list_94 ?_
          refine lv_topi (fun v38 ev38 => ?_)
          have iv38 : iv v38 2 65536 := iv_eq ev38 (iv_add iv10 (by decide : iv 2 2 2) (by decide) (by decide))
          have tv38 : v38.toInt = v10.toInt + 2 := iv_addT ev38 iv10 (by decide) (by decide) (by decide)
          refine va_put (D := (dC, dI)) (ci := 12) (v := .int v38) (ty := .int) (C := RX12) (T := TX12) (N := 72) hx hb hG inGX12 tyX12 tyX12_ok nmX12 hown hK hP hD hS 0 rfl rfl 70 (by decide) (hG _ wd_1377) (fun _ h9 => h9) rfl (by decide +kernel) rfl rfl (Nat.le_of_ble_eq_true rfl) dX12_list_95 (fun H locs hP hD hS => ?_)
          obtain ⟨hP, hD⟩ := nv_eq (ws' := [(h0, .inr (12, .int 0 :: .ref h1 :: .ref h2 :: .int x2 :: .int x3 :: .int x4 :: .int x5 :: .int x6 :: .int x7 :: .int x8 :: .int x9 :: .int x10 :: [.int x11, .int x12, .int x13, .int x14, .int x15, .int x16, .ref h3, .ref h4, .ref h5, .ref h6, .int x17, .int x18, .int x19, .int x20, .int x21, .int x22, .int x23, .int x24, .ref h7, .int x25, .int x26, .int x27, .int x28, .ref h8, .ref h9, .int x29, .int x30, .long z0, .int x31, .int x32, .ref h10, .ref h11, .ref h12, .ref h13, .ref h14, .int x33, .int x34, .int x35, .int x36, .int x37, .int x38, .int x39, .int x40, .int x41, .ref h15, .ref h16, .int x42, .int x43, .int x44, .int x45, .int x46, .int x47, .int x48, .int x49, .ref h17, .int 0, .int x51, .int v10, .int v38, .int u32_2])), (h9, .inl (y3, 35, .inl f3)), (h8, .inl (y4, 35, .inr (.inl g0))), (h17, .inl (y5, 100, .inl u32_3)), (h3, .inl (y0, 3, .inl f0)), (h4, .inl (y1, 3, .inl f1)), (h1, .inl (y2, 65536, .inl f2))]) hP hD rfl
          refine lv_aload_n hx hb dX12_list_98 rfl (lv_at hl 1 rfl) ?_
          refine lv_bipush (v := 41) hx hb dX12_list_99 (by decide) ?_
          obtain ⟨hPc, hDc, hFc⟩ := nv_sub3 (wc := [(h0, .inr (12, .int 0 :: .ref h1 :: .ref h2 :: .int x2 :: .int x3 :: .int x4 :: .int x5 :: .int x6 :: .int x7 :: .int x8 :: .int x9 :: .int x10 :: [.int x11, .int x12, .int x13, .int x14, .int x15, .int x16, .ref h3, .ref h4, .ref h5, .ref h6, .int x17, .int x18, .int x19, .int x20, .int x21, .int x22, .int x23, .int x24, .ref h7, .int x25, .int x26, .int x27, .int x28, .ref h8, .ref h9, .int x29, .int x30, .long z0, .int x31, .int x32, .ref h10, .ref h11, .ref h12, .ref h13, .ref h14, .int x33, .int x34, .int x35, .int x36, .int x37, .int x38, .int x39, .int x40, .int x41, .ref h15, .ref h16, .int x42, .int x43, .int x44, .int x45, .int x46, .int x47, .int x48, .int x49, .ref h17, .int 0, .int x51, .int v10, .int v38, .int u32_2])), (h9, .inl (y3, 35, .inl f3)), (h8, .inl (y4, 35, .inr (.inl g0))), (h17, .inl (y5, 100, .inl u32_3))]) hP hD hS hA [0, 1, 2, 3] (by decide) rfl
          have hKc := hK.sub (tys' := [(y3, .int), (y4, .long), (y5, .byte)]) [0, 1, 2] rfl
          refine va_callv (va_runV (As := [.int 41]) (rest := []) ⟨hx, hb, hml, hown, hG⟩ (cX12_sayName_1 l dC dI h0 h1 h2 h3 h4 h5 h6 h7 h8 h9 h10 h11 h12 h13 h14 h15 h16 h17 y3 y4 y5 H.size 41 0 x2 x3 x4 x5 x6 x7 x8 x9 x10 x11 x12 x13 x14 x15 x16 x17 x18 x19 x20 x21 x22 x23 x24 x25 x26 x27 x28 x29 x30 x31 x32 x33 x34 x35 x36 x37 x38 x39 x40 x41 x42 x43 x44 x45 x46 x47 x48 x49 0 x51 v10 v38 u32_2 z0 f3 u32_3 g0 ix16 ix17 ix22 ix23 ix24 ix25 ix26 ix27 ix28 ix32 ix33 ix34 ix35 ix36 ix37 ix42 ix43 ix47 ix48 (iv_w (by decide : iv 0 0 0) (by decide) (by decide)) (iv_w j37 (by decide) (by decide)) if3 iu32_3 kf3_0 kf3_1 kf3_2 kf3_3 kf3_4 kf3_5 kf3_6 kf3_7 kf3_8 kf3_9 kf3_10 kf3_11 kf3_12 kf3_13 kf3_14 kf3_15 kf3_16 kf3_17 kf3_18 kf3_19 kf3_20 kf3_21 kf3_22 kf3_23 kf3_24 kf3_25 kf3_26 kf3_27 kf3_28 kf3_29 kf3_30 kf3_31 kf3_32 kf3_33 kf3_34) (cwV 1 hG (gV wd_1830 wd_1832 wp_121 wd_17 wd_1833) rfl rfl rfl (by decide +kernel) ⟨Nat.le_of_ble_eq_true rfl, Nat.le_of_ble_eq_true rfl⟩) ⟨fun a U g mk q => by obtain ⟨q0, q1, qP, qK, qD⟩ := q; exact ⟨q0, q1, qP, va_K.moved (u := U) (U := U.calling g mk a) (Vm.Alike.refl U.vm) qK, qD⟩, va_recv hKc hPc (ci := 12) (q0 := 0) rfl rfl, fun U hU hW => ⟨rfl, by rw [hU], by rw [hU]; exact hPc, va_K.moved hW.alike hKc, hDc.weaken (fun _ _ _ _ => trivial)⟩⟩ rfl rfl hl.1 rfl (lv_room (Nat.le_of_ble_eq_true rfl)) dX12_list_101 ⟨by decide, by decide⟩) hS (fun q _ h => hFc q h) hFc (fun u40 t H1 locs ht hvm hw hB hz1 hk1 hS => ?_)
          obtain ⟨u40_0, u40_1⟩ := u40
          have hw : iv u40_0 0 100 ∧ (∀ j, iv (u40_1 j) (-128) 127) ∧ (u40_0.toInt ≤ (0 : Int32).toInt + 8) ∧ True := hw
          obtain ⟨iu40_0, iu40_1, op41, -⟩ := hw
          have kc0 : (0 : Int32).toInt = 0 := by decide
          obtain ⟨hP1, hK1, hD1⟩ := hB
          rw [ht] at hP1
          have hK1 := va_K.moved hvm.symm hK1
          obtain ⟨hP, hD⟩ := nv_join (wf := [(h3, .inl (y0, 3, .inl f0)), (h4, .inl (y1, 3, .inl f1)), (h1, .inl (y2, 65536, .inl f2)), (h0, .inr (12, .int 0 :: .ref h1 :: .ref h2 :: .int x2 :: .int x3 :: .int x4 :: .int x5 :: .int x6 :: .int x7 :: .int x8 :: .int x9 :: .int x10 :: [.int x11, .int x12, .int x13, .int x14, .int x15, .int x16, .ref h3, .ref h4, .ref h5, .ref h6, .int x17, .int x18, .int x19, .int x20, .int x21, .int x22, .int x23, .int x24, .ref h7, .int x25, .int x26, .int x27, .int x28, .ref h8, .ref h9, .int x29, .int x30, .long z0, .int x31, .int x32, .ref h10, .ref h11, .ref h12, .ref h13, .ref h14, .int x33, .int x34, .int x35, .int x36, .int x37, .int x38, .int x39, .int x40, .int x41, .ref h15, .ref h16, .int x42, .int x43, .int x44, .int x45, .int x46, .int x47, .int x48, .int x49, .ref h17, .int u40_0, .int x51, .int v10, .int v38, .int u32_2])), (h9, .inl (y3, 35, .inl f3)), (h8, .inl (y4, 35, .inr (.inl g0))), (h17, .inl (y5, 100, .inl u40_1))]) hP hD [0, 1, 2, 3] [4, 5, 6] rfl rfl (by decide) (by decide) hk1 hFc hP1 hD1 rfl
          have hK := (hK.sub (tys' := [(y0, .int), (y1, .int), (y2, .byte)]) [3, 4, 5] rfl).app hK1
          generalize H1 = H at hP hS ⊢
          have hK : va_K (dC, dI) vwCl [(y0, .int), (y1, .int), (y2, .byte), (y3, .int), (y4, .long), (y5, .byte)] s := hK
          clear hKc hPc hDc hFc hP1 hD1 hK1 hk1 hz1
          refine lv_aload_n hx hb dX12_list_104 rfl (lv_at hl 1 rfl) ?_
          refine lv_bipush (v := 32) hx hb dX12_list_105 (by decide) ?_
          have j42 : iv u40_0 0 99 := ⟨by omega, by omega⟩
          obtain ⟨hPc, hDc, hFc⟩ := nv_sub3 (wc := [(h0, .inr (12, .int 0 :: .ref h1 :: .ref h2 :: .int x2 :: .int x3 :: .int x4 :: .int x5 :: .int x6 :: .int x7 :: .int x8 :: .int x9 :: .int x10 :: [.int x11, .int x12, .int x13, .int x14, .int x15, .int x16, .ref h3, .ref h4, .ref h5, .ref h6, .int x17, .int x18, .int x19, .int x20, .int x21, .int x22, .int x23, .int x24, .ref h7, .int x25, .int x26, .int x27, .int x28, .ref h8, .ref h9, .int x29, .int x30, .long z0, .int x31, .int x32, .ref h10, .ref h11, .ref h12, .ref h13, .ref h14, .int x33, .int x34, .int x35, .int x36, .int x37, .int x38, .int x39, .int x40, .int x41, .ref h15, .ref h16, .int x42, .int x43, .int x44, .int x45, .int x46, .int x47, .int x48, .int x49, .ref h17, .int u40_0, .int x51, .int v10, .int v38, .int u32_2])), (h17, .inl (y5, 100, .inl u40_1))]) hP hD hS hA [3, 6] (by decide) rfl
          have hKc := hK.sub (tys' := [(y5, .byte)]) [5] rfl
          refine va_callv (va_runV (As := [.int 32]) (rest := []) ⟨hx, hb, hml, hown, hG⟩ (cX12_say_1 l dC dI h0 h1 h2 h3 h4 h5 h6 h7 h8 h9 h10 h11 h12 h13 h14 h15 h16 h17 y5 H.size 32 0 x2 x3 x4 x5 x6 x7 x8 x9 x10 x11 x12 x13 x14 x15 x16 x17 x18 x19 x20 x21 x22 x23 x24 x25 x26 x27 x28 x29 x30 x31 x32 x33 x34 x35 x36 x37 x38 x39 x40 x41 x42 x43 x44 x45 x46 x47 x48 x49 u40_0 x51 v10 v38 u32_2 z0 u40_1 ix16 ix17 ix22 ix23 ix24 ix25 ix26 ix27 ix28 ix32 ix33 ix34 ix35 ix36 ix37 ix42 ix43 ix47 ix48 j42 (iv_w j37 (by decide) (by decide)) iu40_1) (cwV 1 hG (gV wd_1834 wd_1836 wp_122 wd_17 wd_1837) rfl rfl rfl (by decide +kernel) ⟨Nat.le_of_ble_eq_true rfl, Nat.le_of_ble_eq_true rfl⟩) ⟨fun a U g mk q => by obtain ⟨q0, q1, qP, qK, qD⟩ := q; exact ⟨q0, q1, qP, va_K.moved (u := U) (U := U.calling g mk a) (Vm.Alike.refl U.vm) qK, qD⟩, va_recv hKc hPc (ci := 12) (q0 := 0) rfl rfl, fun U hU hW => ⟨rfl, by rw [hU], by rw [hU]; exact hPc, va_K.moved hW.alike hKc, hDc.weaken (fun _ _ _ _ => trivial)⟩⟩ rfl rfl hl.1 rfl (lv_room (Nat.le_of_ble_eq_true rfl)) dX12_list_107 ⟨by decide, by decide⟩) hS (fun q _ h => hFc q h) hFc (fun u44 t H1 locs ht hvm hw hB hz1 hk1 hS => ?_)
          obtain ⟨u44_0, u44_1⟩ := u44
          have hw : u44_0.toInt = u40_0.toInt + 1 ∧ iv u44_0 1 100 ∧ (∀ j, iv (u44_1 j) (-128) 127) ∧ True := hw
          obtain ⟨lu44_0, iu44_0, iu44_1, -⟩ := hw
          have mu44_0 : iv u44_0 1 100 := by have q9 := j42; exact ⟨by omega, by omega⟩
          obtain ⟨hP1, hK1, hD1⟩ := hB
          rw [ht] at hP1
          have hK1 := va_K.moved hvm.symm hK1
          obtain ⟨hP, hD⟩ := nv_join (wf := [(h3, .inl (y0, 3, .inl f0)), (h4, .inl (y1, 3, .inl f1)), (h1, .inl (y2, 65536, .inl f2)), (h9, .inl (y3, 35, .inl f3)), (h8, .inl (y4, 35, .inr (.inl g0))), (h0, .inr (12, .int 0 :: .ref h1 :: .ref h2 :: .int x2 :: .int x3 :: .int x4 :: .int x5 :: .int x6 :: .int x7 :: .int x8 :: .int x9 :: .int x10 :: [.int x11, .int x12, .int x13, .int x14, .int x15, .int x16, .ref h3, .ref h4, .ref h5, .ref h6, .int x17, .int x18, .int x19, .int x20, .int x21, .int x22, .int x23, .int x24, .ref h7, .int x25, .int x26, .int x27, .int x28, .ref h8, .ref h9, .int x29, .int x30, .long z0, .int x31, .int x32, .ref h10, .ref h11, .ref h12, .ref h13, .ref h14, .int x33, .int x34, .int x35, .int x36, .int x37, .int x38, .int x39, .int x40, .int x41, .ref h15, .ref h16, .int x42, .int x43, .int x44, .int x45, .int x46, .int x47, .int x48, .int x49, .ref h17, .int u44_0, .int x51, .int v10, .int v38, .int u32_2])), (h17, .inl (y5, 100, .inl u44_1))]) hP hD [3, 6] [0, 1, 2, 4, 5] rfl rfl (by decide) (by decide) hk1 hFc hP1 hD1 rfl
          have hK := (hK.sub (tys' := [(y0, .int), (y1, .int), (y2, .byte), (y3, .int), (y4, .long)]) [0, 1, 2, 3, 4] rfl).app hK1
          generalize H1 = H at hP hS ⊢
          have hK : va_K (dC, dI) vwCl [(y0, .int), (y1, .int), (y2, .byte), (y3, .int), (y4, .long), (y5, .byte)] s := hK
          clear hKc hPc hDc hFc hP1 hD1 hK1 hk1 hz1
          refine lv_aload_n hx hb dX12_list_110 rfl (lv_at hl 1 rfl) ?_
          refine lv_iload_n hx hb dX12_list_111 rfl (lv_at hl 0 rfl) ?_
          have j45 : iv u44_0 1 95 := ⟨by omega, by omega⟩
          obtain ⟨hPc, hDc, hFc⟩ := nv_sub3 (wc := [(h0, .inr (12, .int 0 :: .ref h1 :: .ref h2 :: .int x2 :: .int x3 :: .int x4 :: .int x5 :: .int x6 :: .int x7 :: .int x8 :: .int x9 :: .int x10 :: [.int x11, .int x12, .int x13, .int x14, .int x15, .int x16, .ref h3, .ref h4, .ref h5, .ref h6, .int x17, .int x18, .int x19, .int x20, .int x21, .int x22, .int x23, .int x24, .ref h7, .int x25, .int x26, .int x27, .int x28, .ref h8, .ref h9, .int x29, .int x30, .long z0, .int x31, .int x32, .ref h10, .ref h11, .ref h12, .ref h13, .ref h14, .int x33, .int x34, .int x35, .int x36, .int x37, .int x38, .int x39, .int x40, .int x41, .ref h15, .ref h16, .int x42, .int x43, .int x44, .int x45, .int x46, .int x47, .int x48, .int x49, .ref h17, .int u44_0, .int x51, .int v10, .int v38, .int u32_2])), (h17, .inl (y5, 100, .inl u44_1))]) hP hD hS hA [5, 6] (by decide) rfl
          have hKc := hK.sub (tys' := [(y5, .byte)]) [5] rfl
          refine va_callv (va_runV (As := [.int r12]) (rest := []) ⟨hx, hb, hml, hown, hG⟩ (cX12_sayNumber_1 l dC dI h0 h1 h2 h3 h4 h5 h6 h7 h8 h9 h10 h11 h12 h13 h14 h15 h16 h17 y5 H.size r12 0 x2 x3 x4 x5 x6 x7 x8 x9 x10 x11 x12 x13 x14 x15 x16 x17 x18 x19 x20 x21 x22 x23 x24 x25 x26 x27 x28 x29 x30 x31 x32 x33 x34 x35 x36 x37 x38 x39 x40 x41 x42 x43 x44 x45 x46 x47 x48 x49 u44_0 x51 v10 v38 u32_2 z0 u44_1 ix16 ix17 ix22 ix23 ix24 ix25 ix26 ix27 ix28 ix32 ix33 ix34 ix35 ix36 ix37 ix42 ix43 ix47 ix48 (iv_w j45 (by decide) (by decide)) (iv_w j37 (by decide) (by decide)) iu44_1) (cwV 1 hG (gV wd_1838 wd_1840 wp_123 wd_17 wd_1841) rfl rfl rfl (by decide +kernel) ⟨Nat.le_of_ble_eq_true rfl, Nat.le_of_ble_eq_true rfl⟩) ⟨fun a U g mk q => by obtain ⟨q0, q1, qP, qK, qD⟩ := q; exact ⟨q0, q1, qP, va_K.moved (u := U) (U := U.calling g mk a) (Vm.Alike.refl U.vm) qK, qD⟩, va_recv hKc hPc (ci := 12) (q0 := 0) rfl rfl, fun U hU hW => ⟨rfl, by rw [hU], by rw [hU]; exact hPc, va_K.moved hW.alike hKc, hDc.weaken (fun _ _ _ _ => trivial)⟩⟩ rfl rfl hl.1 rfl (lv_room (Nat.le_of_ble_eq_true rfl)) dX12_list_112 ⟨by decide, by decide⟩) hS (fun q _ h => hFc q h) hFc (fun u47 t H1 locs ht hvm hw hB hz1 hk1 hS => ?_)
          obtain ⟨u47_0, u47_1⟩ := u47
          have hw : iv u47_0 1 100 ∧ (∀ j, iv (u47_1 j) (-128) 127) ∧ (u47_0.toInt ≤ u44_0.toInt + 5) ∧ True := hw
          obtain ⟨iu47_0, iu47_1, op48, -⟩ := hw
          obtain ⟨hP1, hK1, hD1⟩ := hB
          rw [ht] at hP1
          have hK1 := va_K.moved hvm.symm hK1
          obtain ⟨hP, hD⟩ := nv_join (wf := [(h3, .inl (y0, 3, .inl f0)), (h4, .inl (y1, 3, .inl f1)), (h1, .inl (y2, 65536, .inl f2)), (h9, .inl (y3, 35, .inl f3)), (h8, .inl (y4, 35, .inr (.inl g0))), (h0, .inr (12, .int 0 :: .ref h1 :: .ref h2 :: .int x2 :: .int x3 :: .int x4 :: .int x5 :: .int x6 :: .int x7 :: .int x8 :: .int x9 :: .int x10 :: [.int x11, .int x12, .int x13, .int x14, .int x15, .int x16, .ref h3, .ref h4, .ref h5, .ref h6, .int x17, .int x18, .int x19, .int x20, .int x21, .int x22, .int x23, .int x24, .ref h7, .int x25, .int x26, .int x27, .int x28, .ref h8, .ref h9, .int x29, .int x30, .long z0, .int x31, .int x32, .ref h10, .ref h11, .ref h12, .ref h13, .ref h14, .int x33, .int x34, .int x35, .int x36, .int x37, .int x38, .int x39, .int x40, .int x41, .ref h15, .ref h16, .int x42, .int x43, .int x44, .int x45, .int x46, .int x47, .int x48, .int x49, .ref h17, .int u47_0, .int x51, .int v10, .int v38, .int u32_2])), (h17, .inl (y5, 100, .inl u47_1))]) hP hD [5, 6] [0, 1, 2, 3, 4] rfl rfl (by decide) (by decide) hk1 hFc hP1 hD1 rfl
          have hK := (hK.sub (tys' := [(y0, .int), (y1, .int), (y2, .byte), (y3, .int), (y4, .long)]) [0, 1, 2, 3, 4] rfl).app hK1
          generalize H1 = H at hP hS ⊢
          have hK : va_K (dC, dI) vwCl [(y0, .int), (y1, .int), (y2, .byte), (y3, .int), (y4, .long), (y5, .byte)] s := hK
          clear hKc hPc hDc hFc hP1 hD1 hK1 hk1 hz1
          refine lv_aload_n hx hb dX12_list_115 rfl (lv_at hl 1 rfl) ?_
          refine lv_aload_n hx hb dX12_list_116 rfl (lv_at hl 1 rfl) ?_
          refine va_get (D := (dC, dI)) (ci := 12) (v := .int v38) (C := RX12) (T := TX12) (N := 72) hx hb hG inGX12 hown hK hP 5 rfl rfl 70 (by decide) (hG _ wd_1377) (fun _ h9 => h9) rfl dX12_list_117 ?_
          refine lv_ldc hx hb hown (hG _ wd_1553) dX12_list_120 ?_
          refine lv_iand hx hb dX12_list_122 ?_
          refine lv_topi (fun v49 ev49 => ?_)
          have iv49 : iv v49 0 65535 := iv_eq ev49 (iv_and (x := v38) (iv_w (by decide : iv 65535 65535 65535) (by decide) (by decide) : iv 65535 0 65535))
          refine va_put (D := (dC, dI)) (ci := 12) (v := .int v49) (ty := .int) (C := RX12) (T := TX12) (N := 72) hx hb hG inGX12 tyX12 tyX12_ok nmX12 hown hK hP hD hS 5 rfl rfl 68 (by decide) (hG _ wd_1375) (fun _ h9 => h9) rfl (by decide +kernel) rfl rfl (Nat.le_of_ble_eq_true rfl) dX12_list_123 (fun H locs hP hD hS => ?_)
          obtain ⟨hP, hD⟩ := nv_eq (ws' := [(h3, .inl (y0, 3, .inl f0)), (h4, .inl (y1, 3, .inl f1)), (h1, .inl (y2, 65536, .inl f2)), (h9, .inl (y3, 35, .inl f3)), (h8, .inl (y4, 35, .inr (.inl g0))), (h0, .inr (12, .int 0 :: .ref h1 :: .ref h2 :: .int x2 :: .int x3 :: .int x4 :: .int x5 :: .int x6 :: .int x7 :: .int x8 :: .int x9 :: .int x10 :: [.int x11, .int x12, .int x13, .int x14, .int x15, .int x16, .ref h3, .ref h4, .ref h5, .ref h6, .int x17, .int x18, .int x19, .int x20, .int x21, .int x22, .int x23, .int x24, .ref h7, .int x25, .int x26, .int x27, .int x28, .ref h8, .ref h9, .int x29, .int x30, .long z0, .int x31, .int x32, .ref h10, .ref h11, .ref h12, .ref h13, .ref h14, .int x33, .int x34, .int x35, .int x36, .int x37, .int x38, .int x39, .int x40, .int x41, .ref h15, .ref h16, .int x42, .int x43, .int x44, .int x45, .int x46, .int x47, .int x48, .int x49, .ref h17, .int u47_0, .int v49, .int v10, .int v38, .int u32_2])), (h17, .inl (y5, 100, .inl u47_1))]) hP hD rfl
          refine lv_aload_n hx hb dX12_list_126 rfl (lv_at hl 1 rfl) ?_
          refine va_get (D := (dC, dI)) (ci := 12) (v := .int u47_0) (C := RX12) (T := TX12) (N := 72) hx hb hG inGX12 hown hK hP 5 rfl rfl 67 (by decide) (hG _ wd_1374) (fun _ h9 => h9) rfl dX12_list_127 ?_
          rw [hQ]
          obtain ⟨hP9, hD9⟩ := nv_sub2 (wc := [(h0, .inr (12, .int 0 :: .ref h1 :: .ref h2 :: .int x2 :: .int x3 :: .int x4 :: .int x5 :: .int x6 :: .int x7 :: .int x8 :: .int x9 :: .int x10 :: [.int x11, .int x12, .int x13, .int x14, .int x15, .int x16, .ref h3, .ref h4, .ref h5, .ref h6, .int x17, .int x18, .int x19, .int x20, .int x21, .int x22, .int x23, .int x24, .ref h7, .int x25, .int x26, .int x27, .int x28, .ref h8, .ref h9, .int x29, .int x30, .long z0, .int x31, .int x32, .ref h10, .ref h11, .ref h12, .ref h13, .ref h14, .int x33, .int x34, .int x35, .int x36, .int x37, .int x38, .int x39, .int x40, .int x41, .ref h15, .ref h16, .int x42, .int x43, .int x44, .int x45, .int x46, .int x47, .int x48, .int x49, .ref h17, .int u47_0, .int v49, .int v10, .int v38, .int u32_2])), (h3, .inl (y0, 3, .inl f0)), (h4, .inl (y1, 3, .inl f1)), (h1, .inl (y2, 65536, .inl f2)), (h9, .inl (y3, 35, .inl f3)), (h8, .inl (y4, 35, .inr (.inl g0))), (h17, .inl (y5, 100, .inl u47_1))]) hP hD [5, 0, 1, 2, 3, 4, 6] (by decide) rfl
          have hK9 := hK.sub (tys' := [(y0, .int), (y1, .int), (y2, .byte), (y3, .int), (y4, .long), (y5, .byte)]) [0, 1, 2, 3, 4, 5] rfl
          exact W.iret (v := u47_0) hx hb hr (fun t ht hW => ⟨⟨u47_0, (0, u47_0, v49, v10, v38, u32_2, u47_1), rfl, ⟨iv_w iu47_0 (by decide) (by decide), iv_w (by decide : iv 0 0 0) (by decide) (by decide), iv_w iu47_0 (by decide) (by decide), iv_w j37 (by decide) (by decide), (fun j => iv_w (iu47_1 j) (by decide) (by decide)), trivial⟩, by rw [ht]; exact hP9, va_K.moved hW.alike hK9, hD9⟩, hS.F ht⟩) hS.2.2 dX12_list_130
    · skip
      have j50 : iv x0 65536 2147483647 := iv_nleL j5 (by decide : iv 65535 65535 65535) c6 (by decide)
      refine lv_iconst (v := 1) hx hb dX12_list_11 (by decide) ?_
      refine lv_goto (tgt := 16) hx hb dX12_list_12 (by decide) ?_
      obtain ⟨hPc, hDc, hFc⟩ := nv_sub3 (wc := [(h0, .inr (12, .int x1 :: .ref h1 :: .ref h2 :: .int x2 :: .int x3 :: .int x4 :: .int x5 :: .int x6 :: .int x7 :: .int x8 :: .int x9 :: .int x10 :: [.int x11, .int x12, .int x13, .int x14, .int x15, .int x16, .ref h3, .ref h4, .ref h5, .ref h6, .int x17, .int x18, .int x19, .int x20, .int x21, .int x22, .int x23, .int x24, .ref h7, .int x25, .int x26, .int x27, .int x28, .ref h8, .ref h9, .int x29, .int x30, .long z0, .int x31, .int x32, .ref h10, .ref h11, .ref h12, .ref h13, .ref h14, .int x33, .int x34, .int x35, .int x36, .int x37, .int x38, .int x39, .int x40, .int x41, .ref h15, .ref h16, .int x42, .int x43, .int x44, .int x45, .int x46, .int x47, .int x48, .int x49, .ref h17, .int x50, .int x51, .int x52, .int x53, .int x54]))]) hP hD hS hA [0] (by decide) rfl
      have hKc := hK.sub (tys' := []) [] rfl
      refine va_calli (va_runV (As := [.int 1]) (rest := []) ⟨hx, hb, hml, hown, hG⟩ (cX12_throwsIf_1 l dC dI h0 h1 h2 h3 h4 h5 h6 h7 h8 h9 h10 h11 h12 h13 h14 h15 h16 h17 s.heap.size x1 x2 x3 x4 x5 x6 x7 x8 x9 x10 x11 x12 x13 x14 x15 x16 x17 x18 x19 x20 x21 x22 x23 x24 x25 x26 x27 x28 x29 x30 x31 x32 x33 x34 x35 x36 x37 x38 x39 x40 x41 x42 x43 x44 x45 x46 x47 x48 x49 x50 x51 x52 x53 x54 z0 ix16 ix17 ix22 ix23 ix24 ix25 ix26 ix27 ix28 ix32 ix33 ix34 ix35 ix36 ix37 ix42 ix43 ix47 ix48 ix50 ix54) (cwV 1 hG (gV wd_1562 wd_1564 wp_71 wd_17 wd_1565) rfl rfl rfl (by decide +kernel) ⟨Nat.le_of_ble_eq_true rfl, Nat.le_of_ble_eq_true rfl⟩) ⟨fun a U g mk q => by obtain ⟨q0, q1, qP, qK, qD⟩ := q; exact ⟨q0, q1, qP, va_K.moved (u := U) (U := U.calling g mk a) (Vm.Alike.refl U.vm) qK, qD⟩, va_recv hKc hPc (ci := 12) (q0 := 0) rfl rfl, fun U hU hW => ⟨rfl, by rw [hU], by rw [hU]; exact hPc, va_K.moved hW.alike hKc, hDc.weaken (fun _ _ _ _ => trivial)⟩⟩ rfl rfl hl.1 rfl (lv_room (Nat.le_of_ble_eq_true rfl)) dX12_list_16 ⟨by decide, by decide⟩) hS (fun q _ h => hFc q h) hFc (fun r51 u52 t H1 locs ht hvm hw hB hz1 hk1 hS => ?_)
      have hw : r51 = 1 ∧ True := hw
      obtain ⟨er51, -⟩ := hw
      obtain ⟨hP1, hK1, hD1⟩ := hB
      rw [ht] at hP1
      have hK1 := va_K.moved hvm.symm hK1
      obtain ⟨hP, hD⟩ := nv_join (wf := [(h3, .inl (y0, 3, .inl f0)), (h4, .inl (y1, 3, .inl f1)), (h1, .inl (y2, 65536, .inl f2)), (h9, .inl (y3, 35, .inl f3)), (h8, .inl (y4, 35, .inr (.inl g0))), (h17, .inl (y5, 100, .inl f4)), (h0, .inr (12, .int 1 :: .ref h1 :: .ref h2 :: .int x2 :: .int x3 :: .int x4 :: .int x5 :: .int x6 :: .int x7 :: .int x8 :: .int x9 :: .int x10 :: [.int x11, .int x12, .int x13, .int x14, .int x15, .int x16, .ref h3, .ref h4, .ref h5, .ref h6, .int x17, .int x18, .int x19, .int x20, .int x21, .int x22, .int x23, .int x24, .ref h7, .int x25, .int x26, .int x27, .int x28, .ref h8, .ref h9, .int x29, .int x30, .long z0, .int x31, .int x32, .ref h10, .ref h11, .ref h12, .ref h13, .ref h14, .int x33, .int x34, .int x35, .int x36, .int x37, .int x38, .int x39, .int x40, .int x41, .ref h15, .ref h16, .int x42, .int x43, .int x44, .int x45, .int x46, .int x47, .int x48, .int x49, .ref h17, .int x50, .int x51, .int x52, .int x53, .int x54]))]) hP hD [0] [1, 2, 3, 4, 5, 6] rfl rfl (by decide) (by decide) hk1 hFc hP1 hD1 rfl
      have hK := (hK.sub (tys' := [(y0, .int), (y1, .int), (y2, .byte), (y3, .int), (y4, .long), (y5, .byte)]) [0, 1, 2, 3, 4, 5] rfl).app hK1
      generalize H1 = H at hP hS ⊢
      have hK : va_K (dC, dI) vwCl [(y0, .int), (y1, .int), (y2, .byte), (y3, .int), (y4, .long), (y5, .byte)] s := hK
      clear hKc hPc hDc hFc hP1 hD1 hK1 hk1 hz1
      subst er51
      refine lv_if_eq (tgt := 24) hx hb dX12_list_19 (by decide) (fun c => absurd c (by decide)) (fun _ => ?_)
      refine lv_iconst (v := 0) hx hb dX12_list_22 (by decide) ?_
      rw [hQ]
      obtain ⟨hP9, hD9⟩ := nv_sub2 (wc := [(h0, .inr (12, .int 1 :: .ref h1 :: .ref h2 :: .int x2 :: .int x3 :: .int x4 :: .int x5 :: .int x6 :: .int x7 :: .int x8 :: .int x9 :: .int x10 :: [.int x11, .int x12, .int x13, .int x14, .int x15, .int x16, .ref h3, .ref h4, .ref h5, .ref h6, .int x17, .int x18, .int x19, .int x20, .int x21, .int x22, .int x23, .int x24, .ref h7, .int x25, .int x26, .int x27, .int x28, .ref h8, .ref h9, .int x29, .int x30, .long z0, .int x31, .int x32, .ref h10, .ref h11, .ref h12, .ref h13, .ref h14, .int x33, .int x34, .int x35, .int x36, .int x37, .int x38, .int x39, .int x40, .int x41, .ref h15, .ref h16, .int x42, .int x43, .int x44, .int x45, .int x46, .int x47, .int x48, .int x49, .ref h17, .int x50, .int x51, .int x52, .int x53, .int x54])), (h3, .inl (y0, 3, .inl f0)), (h4, .inl (y1, 3, .inl f1)), (h1, .inl (y2, 65536, .inl f2)), (h9, .inl (y3, 35, .inl f3)), (h8, .inl (y4, 35, .inr (.inl g0))), (h17, .inl (y5, 100, .inl f4))]) hP hD [6, 0, 1, 2, 3, 4, 5] (by decide) rfl
      have hK9 := hK.sub (tys' := [(y0, .int), (y1, .int), (y2, .byte), (y3, .int), (y4, .long), (y5, .byte)]) [0, 1, 2, 3, 4, 5] rfl
      exact W.iret (v := 0) hx hb hr (fun t ht hW => ⟨⟨0, (1, x50, x51, x52, x53, x54, f4), rfl, ⟨iv_w (by decide : iv 0 0 0) (by decide) (by decide), iv_w (by decide : iv 1 1 1) (by decide) (by decide), iv_w ix50 (by decide) (by decide), iv_w ix54 (by decide) (by decide), (fun j => iv_w (if4 j) (by decide) (by decide)), trivial⟩, by rw [ht]; exact hP9, va_K.moved hW.alike hK9, hD9⟩, hS.F ht⟩) hS.2.2 dX12_list_23
set_option maxHeartbeats 100000000 in
set_option maxRecDepth 100000 in
theorem cX11_list_2 (l : Launch) (hst : l.stackTraces = false) (dC : Nat → ClassId) (dI : Nat → Nat → Nat) (adK adV : Nat → Nat) (h0 h1 h2 h3 h4 h5 : Nat) (sz : Nat) (x0 x1 x2 : Int32) (ix0 : iv x0 65536 2147483647) (ix1 : iv x1 0 2600) : vx_Met l yX11_list (Cond.code yX11_list cX11_list 3 (some .int) :: lw_G) ({ frames := 6, cells := 1, slots := 6, locals := 82 }) (va_Pc [.ref h0, .int x0] (fun U => U.heap.size = sz ∧ va_P (dC, dI) vwCl [(h0, .inr (11, [.ref h1, .ref h2, .ref h3, .ref h4, .ref h5, .int x1, .int x2]))] U.heap ∧ va_K (dC, dI) vwCl [] U ∧ va_D (fun _ => True) [(h0, .inr (11, [.ref h1, .ref h2, .ref h3, .ref h4, .ref h5, .int x1, .int x2]))] ∧ ev adK adV (va_A [(h0, .inr (11, [.ref h1, .ref h2, .ref h3, .ref h4, .ref h5, .int x1, .int x2]))] sz) U U.heap)) (va_Qi (fun (_ : Int32) (_ : Unit) => False) (fun _ _ => True) (va_A [(h0, .inr (11, [.ref h1, .ref h2, .ref h3, .ref h4, .ref h5, .int x1, .int x2]))] sz)) (vx_X (fun (_ : Unit) => True) (fun (E : String) (_ : Unit) (t : State) => E = "java/lang/IndexOutOfBoundsException" ∧ va_P (dC, dI) vwCl [(h0, .inr (11, [.ref h1, .ref h2, .ref h3, .ref h4, .ref h5, .int x1, .int x2]))] t.heap ∧ va_K (dC, dI) vwCl [] t ∧ va_D (va_A [(h0, .inr (11, [.ref h1, .ref h2, .ref h3, .ref h4, .ref h5, .int x1, .int x2]))] sz) [(h0, .inr (11, [.ref h1, .ref h2, .ref h3, .ref h4, .ref h5, .int x1, .int x2]))]) (va_A [(h0, .inr (11, [.ref h1, .ref h2, .ref h3, .ref h4, .ref h5, .int x1, .int x2]))] sz)) 1 6 (va_A [(h0, .inr (11, [.ref h1, .ref h2, .ref h3, .ref h4, .ref h5, .int x1, .int x2]))] sz) := by
  refine vx_ofW (cc := cX11_list) (maxL := 3) (ret := (some .int)) (by decide) rfl ?_
  intro p e s m args below meth c s₁ B hml htab hv
  obtain ⟨rfl, hsz, hP, hK, hD0, hE⟩ := hv
  have hx := B.exec
  have hb := B.bytes
  have hr := B.returns
  have hts0 := atoms_spec (ws := Cond.code yX11_list cX11_list 3 (some .int) :: lw_G) B.pre
  have hG : ∀ w ∈ lw_G, w.before _ s = true := fun w h => hts0 w (List.mem_cons_of_mem _ h)
  have hown : s.vm.findClass RX11 = some m.cls := findClass_of_methodNamed B.named
  have hlocks := B.notSynchronized
  subst hsz
  have hD := hD0.self (sz := s.heap.size)
  generalize hAe : va_A [(h0, .inr (11, [.ref h1, .ref h2, .ref h3, .ref h4, .ref h5, .int x1, .int x2]))] s.heap.size = A at hD hE ⊢
  have hA : ∀ q : Nat, s.heap.size ≤ q → A q := fun q h => by rw [← hAe]; exact Or.inr h
  have hS : va_S A s.heap s.heap [] := va_S.rf
  have hP : va_P (dC, dI) vwCl [(h0, .inr (11, [.ref h1, .ref h2, .ref h3, .ref h4, .ref h5, .int x1, .int x2]))] s.heap := hP
  have hl := lv_entry ([.ref h0, .int x0]) (n := 3) (Nat.le_of_ble_eq_true rfl)
  rw [lg_entry_eq]
  generalize (lg_sl ([.ref h0, .int x0]) ++ List.replicate (3 - (lg_sl ([.ref h0, .int x0])).length) Slot.unset).toArray = ls at hl ⊢
  have hl : lv_has ls 3 [(0, .ref h0), (1, .int x0)] := hl
  refine lv_iload_n hx hb dX11_list_0 rfl (lv_at hl 1 rfl) ?_
  refine lv_if_lt (tgt := 10) hx hb dX11_list_1 (by decide) (fun c => absurd c (iv_nlt ix0 (by decide : iv 0 0 0) (by decide))) (fun _ => ?_)
  refine lv_iload_n hx hb dX11_list_4 rfl (lv_at hl 1 rfl) ?_
  refine lv_ldc hx hb hown (hG _ wd_1157) dX11_list_5 ?_
  refine lv_icmp_lt (tgt := 20) hx hb dX11_list_7 (by decide) (fun c => absurd c (iv_nlt ix0 (by decide : iv 65536 65536 65536) (by decide))) (fun _ => ?_)
  obtain ⟨hP9, hD9⟩ := nv_sub2 (wc := [(h0, .inr (11, [.ref h1, .ref h2, .ref h3, .ref h4, .ref h5, .int x1, .int x2]))]) hP hD [0] (by decide) rfl
  have hK9 := hK.sub (tys' := []) [] rfl
  refine vx_throwS (own := RX11) (cls := "java/lang/IndexOutOfBoundsException") (text := evT4) (names := ["java/lang/RuntimeException", "java/lang/Exception"]) hx hb hst hown (by decide) (by decide) (hG _ wd_1126) (hG _ wd_24) (evR4 hE) (evA1 hE hG) evG1_106 hE.2.2.2.1 hE.2.2.2.2.1 hS (by rw [hml]; exact hl.1) dX11_list_10 dX11_list_13 dX11_list_14 dX11_list_16 dX11_list_19 (fun x hx9 => (htab x hx9).elim) (by decide) (by decide) (by decide) (by decide) hlocks (fun t hvm9 hz9 hk9 => ⟨(), trivial, ⟨rfl, hP9.kept (fun k q hk => hk9 q.1 (vx_lt hP9 hk)), va_K.moved hvm9 hK9, hD9⟩, Nat.le_trans hS.1 hz9, fun q hq hA9 => (hk9 q (Nat.lt_of_lt_of_le hq hS.1)).trans (hS.2.1 q hq hA9)⟩) hS.2.2 (by decide) (by decide)
set_option maxHeartbeats 100000000 in
set_option maxRecDepth 100000 in
theorem cL_list_2 (l : Launch) (hst : l.stackTraces = false) (dC : Nat → ClassId) (dI : Nat → Nat → Nat) (adK adV : Nat → Nat) (h0 h1 h2 h3 h4 h5 h6 : Nat) (sz : Nat) (x0 x1 x2 : Int32) (ix0 : iv x0 65536 2147483647) (ix1 : iv x1 0 2600) : Met l yL_list (Cond.codeWith yL_list cL_list 4 (some .int) [(0, 9, 12, 19)] :: lw_G) ({ frames := 7, cells := 1, slots := 6, locals := 104 }) (va_Pc [.ref h0, .int x0, .ref h1] (fun U => U.heap.size = sz ∧ va_P (dC, dI) vwCl [(h0, .inr (11, [.ref h2, .ref h3, .ref h4, .ref h5, .ref h6, .int x1, .int x2]))] U.heap ∧ va_K (dC, dI) vwCl [] U ∧ va_D (fun _ => True) [(h0, .inr (11, [.ref h2, .ref h3, .ref h4, .ref h5, .ref h6, .int x1, .int x2]))] ∧ ev adK adV (va_A [(h0, .inr (11, [.ref h2, .ref h3, .ref h4, .ref h5, .ref h6, .int x1, .int x2]))] sz) U U.heap)) (va_Qi (fun (r : Int32) (u : Unit) => r = 1 ∧ True) (fun (u : Unit) (t : State) => va_P (dC, dI) vwCl [(h0, .inr (11, [.ref h2, .ref h3, .ref h4, .ref h5, .ref h6, .int x1, .int x2]))] t.heap ∧ va_K (dC, dI) vwCl [] t ∧ va_D (va_A [(h0, .inr (11, [.ref h2, .ref h3, .ref h4, .ref h5, .ref h6, .int x1, .int x2]))] sz) [(h0, .inr (11, [.ref h2, .ref h3, .ref h4, .ref h5, .ref h6, .int x1, .int x2]))]) (va_A [(h0, .inr (11, [.ref h2, .ref h3, .ref h4, .ref h5, .ref h6, .int x1, .int x2]))] sz)) 1 6 (va_A [(h0, .inr (11, [.ref h2, .ref h3, .ref h4, .ref h5, .ref h6, .int x1, .int x2]))] sz) := by
  refine va_MetW (cc := cL_list) (maxL := 4) (ret := (some .int)) (by decide) rfl ?_
  intro p e s m args below meth c s₁ B hml hv
  obtain ⟨rfl, hsz, hP, hK, hD0, hE⟩ := hv
  have hx := B.exec
  have hb := B.bytes
  have hr := B.returns
  have hts0 := atoms_spec (ws := Cond.codeWith yL_list cL_list 4 (some .int) [(0, 9, 12, 19)] :: lw_G) B.pre
  have htab := vx_table (x := x) B (hts0 _ List.mem_cons_self)
  have hG : ∀ w ∈ lw_G, w.before _ s = true := fun w h => hts0 w (List.mem_cons_of_mem _ h)
  have hown : s.vm.findClass RL = some m.cls := findClass_of_methodNamed B.named
  have hlocks := B.notSynchronized
  subst hsz
  have hD := hD0.self (sz := s.heap.size)
  generalize hAe : va_A [(h0, .inr (11, [.ref h2, .ref h3, .ref h4, .ref h5, .ref h6, .int x1, .int x2]))] s.heap.size = A at hD hE ⊢
  have hA : ∀ q : Nat, s.heap.size ≤ q → A q := fun q h => by rw [← hAe]; exact Or.inr h
  have hS : va_S A s.heap s.heap [] := va_S.rf
  have hP : va_P (dC, dI) vwCl [(h0, .inr (11, [.ref h2, .ref h3, .ref h4, .ref h5, .ref h6, .int x1, .int x2]))] s.heap := hP
  have hl := lv_entry ([.ref h0, .int x0, .ref h1]) (n := 4) (Nat.le_of_ble_eq_true rfl)
  rw [lg_entry_eq]
  generalize (lg_sl ([.ref h0, .int x0, .ref h1]) ++ List.replicate (4 - (lg_sl ([.ref h0, .int x0, .ref h1])).length) Slot.unset).toArray = ls at hl ⊢
  have hl : lv_has ls 4 [(0, .ref h0), (1, .int x0), (2, .ref h1)] := hl
  generalize ([.ref h0, .int x0, .ref h1] : List Value).toArray = ar at hG ⊢
  refine wq (fun Q hQ => ?_)
  refine lv_aload_n hx hb dL_list_0 rfl (lv_at hl 2 rfl) ?_
  refine lv_iconst (v := 0) hx hb dL_list_1 (by decide) ?_
  refine lv_aload_n hx hb dL_list_2 rfl (lv_at hl 0 rfl) ?_
  refine lv_iload_n hx hb dL_list_3 rfl (lv_at hl 1 rfl) ?_
  obtain ⟨hPc, hDc, hFc⟩ := nv_sub3 (wc := [(h0, .inr (11, [.ref h2, .ref h3, .ref h4, .ref h5, .ref h6, .int x1, .int x2]))]) hP hD hS hA [0] (by decide) rfl
  have hKc := hK.sub (tys' := []) [] rfl
  refine vx_calli (vx_runV (As := [.int x0]) (rest := [.int 0, .ref h1]) ⟨hx, hb, hml, hown, hG⟩ (cX11_list_2 l hst dC dI adK adV h0 h2 h3 h4 h5 h6 s.heap.size x0 x1 x2 ix0 ix1) (cwV 1 hG (gV wd_1174 wd_1175 wd_1176 wd_1 wd_1177) rfl rfl rfl (by decide +kernel) ⟨Nat.le_of_ble_eq_true rfl, Nat.le_of_ble_eq_true rfl⟩) ⟨fun a U g mk q => by obtain ⟨q0, q1, qP, qK, qD, qE⟩ := q; exact ⟨q0, q1, qP, va_K.moved (u := U) (U := U.calling g mk a) (Vm.Alike.refl U.vm) qK, qD, qE.same rfl⟩, va_recv hKc hPc (ci := 11) (q0 := 0) rfl rfl, fun U hU hW => ⟨rfl, by rw [hU], by rw [hU]; exact hPc, va_K.moved hW.alike hKc, hDc.weaken (fun _ _ _ _ => trivial), by rw [hU]; exact ((hE.kept hS.2.1).narrow hFc).warm hW⟩⟩ rfl rfl hl.1 rfl (lv_room (Nat.le_of_ble_eq_true rfl)) dL_list_4 ⟨by decide, by decide⟩) hS (fun q _ h => hFc q h) hFc (fun q _ h => hFc q h) (fun E9 ce q1 u9 t H1 locs ht hvm hpx hB hz1 hk1 hS hce hcv hcl => ?_) (fun r u t H1 locs ht hvm hw hB hz1 hk1 hS => hw.elim)
  obtain ⟨rfl, hP1, hK1, hD1⟩ := hB
  rw [ht] at hP1
  have hK1 := va_K.moved hvm.symm hK1
  obtain ⟨hP, hD⟩ := nv_join (wf := [(h0, .inr (11, [.ref h2, .ref h3, .ref h4, .ref h5, .ref h6, .int x1, .int x2]))]) hP hD [0] [] rfl rfl (by decide) (by decide) hk1 hFc hP1 hD1 rfl
  have hK := (hK.sub (tys' := []) [] rfl).app hK1
  generalize H1 = H at hP hS hce ⊢
  have hK : va_K (dC, dI) vwCl [] s := hK
  refine vx_widen (k := 1) (n := 6) (by decide) (by decide) ?_
  refine vx_catch (name := "java/lang/IndexOutOfBoundsException") hown [] { startPc := 0, endPc := 9, handlerPc := 12, catchType := 19 } [] (by rw [htab]; rfl) (fun z hz => nomatch hz) (by decide) (by decide) (hG _ wd_1121) (evC1 hE) hce hcv hcl ?_
  refine lv_astore_n (lv' := [(3, .ref q1), (0, .ref h0), (1, .int x0), (2, .ref h1)]) hx hb dL_list_12 rfl hl (by decide) rfl (fun ls hl => ?_)
  refine lv_iconst (v := 1) hx hb dL_list_13 (by decide) ?_
  rw [hQ]
  obtain ⟨hP9, hD9⟩ := nv_sub2 (wc := [(h0, .inr (11, [.ref h2, .ref h3, .ref h4, .ref h5, .ref h6, .int x1, .int x2]))]) hP hD [0] (by decide) rfl
  have hK9 := hK.sub (tys' := []) [] rfl
  refine W.widen (k := 1) (n := 6) (by decide) (by decide) ?_
  exact W.iret (v := 1) hx hb hr (fun t ht hW => ⟨⟨1, (), rfl, ⟨rfl, trivial⟩, by rw [ht]; exact hP9, va_K.moved hW.alike hK9, hD9⟩, hS.F ht⟩) hS.2.2 dL_list_14
set_option maxHeartbeats 100000000 in
set_option maxRecDepth 100000 in
theorem cX8_put_1 (l : Launch) (dC : Nat → ClassId) (dI : Nat → Nat → Nat) (h0 h1 h2 : Nat) (y0 : ClassId) (sz : Nat) (x0 x1 x2 x3 : Int32) (f0 : Nat → Int32) (ix1 : iv x1 0 64) : Met l yX8_put (Cond.code yX8_put cX8_put 2 none :: lw_G) ({ frames := 0, cells := 0, slots := 0, locals := 0 }) (va_Pc [.ref h0, .int x0] (fun U => U.heap.size = sz ∧ va_P (dC, dI) vwCl [(h0, .inr (8, [.ref h1, .ref h2, .int x1, .int x2, .int x3])), (h1, .inl (y0, 64, .inl f0))] U.heap ∧ va_K (dC, dI) vwCl [(y0, .int)] U ∧ va_D (fun _ => True) [(h0, .inr (8, [.ref h1, .ref h2, .int x1, .int x2, .int x3])), (h1, .inl (y0, 64, .inl f0))])) (va_Qv (fun (u : Int32 × (Nat → Int32)) => iv u.1 1 64 ∧ True) (fun (u : Int32 × (Nat → Int32)) (t : State) => va_P (dC, dI) vwCl [(h0, .inr (8, [.ref h1, .ref h2, .int u.1, .int x2, .int x3])), (h1, .inl (y0, 64, .inl u.2))] t.heap ∧ va_K (dC, dI) vwCl [(y0, .int)] t ∧ va_D (va_A [(h0, .inr (8, [.ref h1, .ref h2, .int x1, .int x2, .int x3])), (h1, .inl (y0, 64, .inl f0))] sz) [(h0, .inr (8, [.ref h1, .ref h2, .int u.1, .int x2, .int x3])), (h1, .inl (y0, 64, .inl u.2))]) (va_A [(h0, .inr (8, [.ref h1, .ref h2, .int x1, .int x2, .int x3])), (h1, .inl (y0, 64, .inl f0))] sz)) 0 0 (va_A [(h0, .inr (8, [.ref h1, .ref h2, .int x1, .int x2, .int x3])), (h1, .inl (y0, 64, .inl f0))] sz) := by
  refine Met.ofW (cc := cX8_put) (maxL := 2) (ret := none) (by decide) rfl ?_
  intro p e s m args below meth c s₁ B hml hv
  obtain ⟨rfl, hsz, hP, hK, hD0⟩ := hv
  have hx := B.exec
  have hb := B.bytes
  have hr := B.returns
  have hts0 := atoms_spec (ws := Cond.code yX8_put cX8_put 2 none :: lw_G) B.pre
  have hG : ∀ w ∈ lw_G, w.before _ s = true := fun w h => hts0 w (List.mem_cons_of_mem _ h)
  have hown : s.vm.findClass RX8 = some m.cls := findClass_of_methodNamed B.named
  have hlocks := B.notSynchronized
  subst hsz
  have hD := hD0.self (sz := s.heap.size)
  generalize hAe : va_A [(h0, .inr (8, [.ref h1, .ref h2, .int x1, .int x2, .int x3])), (h1, .inl (y0, 64, .inl f0))] s.heap.size = A at hD ⊢
  have hA : ∀ q : Nat, s.heap.size ≤ q → A q := fun q h => by rw [← hAe]; exact Or.inr h
  have hS : va_S A s.heap s.heap [] := va_S.rf
  have hP : va_P (dC, dI) vwCl [(h0, .inr (8, [.ref h1, .ref h2, .int x1, .int x2, .int x3])), (h1, .inl (y0, 64, .inl f0))] s.heap := hP
  have hl := lv_entry ([.ref h0, .int x0]) (n := 2) (Nat.le_of_ble_eq_true rfl)
  rw [lg_entry_eq]
  generalize (lg_sl ([.ref h0, .int x0]) ++ List.replicate (2 - (lg_sl ([.ref h0, .int x0])).length) Slot.unset).toArray = ls at hl ⊢
  have hl : lv_has ls 2 [(0, .ref h0), (1, .int x0)] := hl
  generalize ([.ref h0, .int x0] : List Value).toArray = ar at hG ⊢
  refine wq (fun Q hQ => ?_)
  refine lv_aload_n hx hb dX8_put_0 rfl (lv_at hl 0 rfl) ?_
  refine va_get (D := (dC, dI)) (ci := 8) (v := .int x1) (C := RX8) (T := TX8) (N := 5) hx hb hG inGX8 hown hK hP 0 rfl rfl 2 (by decide) (hG _ wd_381) (fun _ h9 => h9) rfl dX8_put_1 ?_
  refine lv_bipush (v := 64) hx hb dX8_put_4 (by decide) ?_
  refine jcut (a := ∀ (b6 : Int32) (b7 : Nat → Int32) (ib6 : iv b6 1 64) (H : Heap) (locs : List Loc) (hK : va_K (dC, dI) vwCl [(y0, .int)] s) (hP : va_P (dC, dI) vwCl [(h0, .inr (8, [.ref h1, .ref h2, .int b6, .int x2, .int x3])), (h1, .inl (y0, 64, .inl b7))] H) (hD : va_D A [(h0, .inr (8, [.ref h1, .ref h2, .int b6, .int x2, .int x3])), (h1, .inl (y0, 64, .inl b7))]) (hS : va_S A s.heap H locs) (ls : Array Slot) (hl : lv_has ls 2 []), W p l e (headSpec (Cond.code yX8_put cX8_put 2 none :: lw_G) ({ frames := 0, cells := 0, slots := 0, locals := 0 })).room s m ar below meth c H locs 0 0 Q (F0 m 29 ls [])) ?_ (fun j8 => ?_)
  · skip
    intro b6 b7 ib6 H locs hK hP hD hS ls hl
    rw [hQ]
    obtain ⟨hP9, hD9⟩ := nv_sub2 (wc := [(h0, .inr (8, [.ref h1, .ref h2, .int b6, .int x2, .int x3])), (h1, .inl (y0, 64, .inl b7))]) hP hD [0, 1] (by decide) rfl
    have hK9 := hK.sub (tys' := [(y0, .int)]) [0] rfl
    exact W.vret hx hb hr (fun t ht hW => ⟨⟨(b6, b7), rfl, ⟨iv_w ib6 (by decide) (by decide), trivial⟩, by rw [ht]; exact hP9, va_K.moved hW.alike hK9, hD9⟩, hS.F ht⟩) hS.2.2 dX8_put_29
  refine lv_icmp_ge (tgt := 29) hx hb dX8_put_6 (by decide) (fun c1 => ?_) (fun c1 => ?_)
  · skip
    have j9 : iv x1 64 64 := iv_leR (by decide : iv 64 64 64) ix1 c1 (by decide)
    exact j8 x1 f0 (iv_w j9 (by decide) (by decide)) _ _ hK hP hD hS ls (lv_sub hl [] rfl)
  · skip
    have j10 : iv x1 0 63 := iv_nleR (by decide : iv 64 64 64) ix1 c1 (by decide)
    refine lv_aload_n hx hb dX8_put_9 rfl (lv_at hl 0 rfl) ?_
    refine va_get (D := (dC, dI)) (ci := 8) (v := .ref h1) (C := RX8) (T := TX8) (N := 5) hx hb hG inGX8 hown hK hP 0 rfl rfl 0 (by decide) (hG _ wd_379) (fun _ h9 => h9) rfl dX8_put_10 ?_
    refine lv_aload_n hx hb dX8_put_13 rfl (lv_at hl 0 rfl) ?_
    refine va_get (D := (dC, dI)) (ci := 8) (v := .int x1) (C := RX8) (T := TX8) (N := 5) hx hb hG inGX8 hown hK hP 0 rfl rfl 2 (by decide) (hG _ wd_381) (fun _ h9 => h9) rfl dX8_put_14 ?_
    refine lv_iload_n hx hb dX8_put_17 rfl (lv_at hl 1 rfl) ?_
    refine va_iast hx hb hK hP hD hS 1 0 rfl rfl (iv_in j10 (by decide) (by decide) : vp_in x1 64) dX8_put_18 (fun H locs hP hD hS => ?_)
    obtain ⟨nf11, enf11⟩ : ∃ z, z = upd f0 x1.toNatClampNeg x0 := ⟨_, rfl⟩
    obtain ⟨hP, hD⟩ := nv_eq (ws' := [(h0, .inr (8, [.ref h1, .ref h2, .int x1, .int x2, .int x3])), (h1, .inl (y0, 64, .inl nf11))]) hP hD (by subst enf11; rfl)
    refine lv_aload_n hx hb dX8_put_19 rfl (lv_at hl 0 rfl) ?_
    refine lv_dup hx hb dX8_put_20 rfl ?_
    refine va_get (D := (dC, dI)) (ci := 8) (v := .int x1) (C := RX8) (T := TX8) (N := 5) hx hb hG inGX8 hown hK hP 0 rfl rfl 2 (by decide) (hG _ wd_381) (fun _ h9 => h9) rfl dX8_put_21 ?_
    refine lv_iconst (v := 1) hx hb dX8_put_24 (by decide) ?_
    refine lv_iadd hx hb dX8_put_25 ?_
    refine lv_topi (fun v12 ev12 => ?_)
    have iv12 : iv v12 1 64 := iv_eq ev12 (iv_add j10 (by decide : iv 1 1 1) (by decide) (by decide))
    have tv12 : v12.toInt = x1.toInt + 1 := iv_addT ev12 j10 (by decide) (by decide) (by decide)
    refine va_put (D := (dC, dI)) (ci := 8) (v := .int v12) (ty := .int) (C := RX8) (T := TX8) (N := 5) hx hb hG inGX8 tyX8 tyX8_ok nmX8 hown hK hP hD hS 0 rfl rfl 2 (by decide) (hG _ wd_381) (fun _ h9 => h9) rfl (by decide +kernel) rfl rfl (Nat.le_of_ble_eq_true rfl) dX8_put_26 (fun H locs hP hD hS => ?_)
    obtain ⟨hP, hD⟩ := nv_eq (ws' := [(h0, .inr (8, [.ref h1, .ref h2, .int v12, .int x2, .int x3])), (h1, .inl (y0, 64, .inl nf11))]) hP hD rfl
    exact j8 v12 nf11 iv12 _ _ hK hP hD hS ls (lv_sub hl [] rfl)
set_option maxHeartbeats 100000000 in
set_option maxRecDepth 100000 in
theorem cX8_putName_1 (l : Launch) (dC : Nat → ClassId) (dI : Nat → Nat → Nat) (adK adV : Nat → Nat) (h0 h1 h2 : Nat) (y0 : ClassId) (sz : Nat) (x0 x1 x2 x3 x4 : Int32) (f0 : Nat → Int32) (ix2 : iv x2 0 64) : Met l yX8_putName (Cond.code yX8_putName cX8_putName 4 none :: lw_G) ({ frames := 5, cells := 0, slots := 0, locals := 107 }) (va_Pc [.ref h0, .int x0, .int x1] (fun U => U.heap.size = sz ∧ va_P (dC, dI) vwCl [(h0, .inr (8, [.ref h1, .ref h2, .int x2, .int x3, .int x4])), (h1, .inl (y0, 64, .inl f0))] U.heap ∧ va_K (dC, dI) vwCl [(y0, .int)] U ∧ va_D (fun _ => True) [(h0, .inr (8, [.ref h1, .ref h2, .int x2, .int x3, .int x4])), (h1, .inl (y0, 64, .inl f0))] ∧ ev adK adV (va_A [(h0, .inr (8, [.ref h1, .ref h2, .int x2, .int x3, .int x4])), (h1, .inl (y0, 64, .inl f0))] sz) U U.heap)) (va_Qv (fun (u : Int32 × (Nat → Int32)) => iv u.1 1 64 ∧ True) (fun (u : Int32 × (Nat → Int32)) (t : State) => va_P (dC, dI) vwCl [(h0, .inr (8, [.ref h1, .ref h2, .int u.1, .int x3, .int x4])), (h1, .inl (y0, 64, .inl u.2))] t.heap ∧ va_K (dC, dI) vwCl [(y0, .int)] t ∧ va_D (va_A [(h0, .inr (8, [.ref h1, .ref h2, .int x2, .int x3, .int x4])), (h1, .inl (y0, 64, .inl f0))] sz) [(h0, .inr (8, [.ref h1, .ref h2, .int u.1, .int x3, .int x4])), (h1, .inl (y0, 64, .inl u.2))]) (va_A [(h0, .inr (8, [.ref h1, .ref h2, .int x2, .int x3, .int x4])), (h1, .inl (y0, 64, .inl f0))] sz)) 0 0 (va_A [(h0, .inr (8, [.ref h1, .ref h2, .int x2, .int x3, .int x4])), (h1, .inl (y0, 64, .inl f0))] sz) := by
  refine Met.ofW (cc := cX8_putName) (maxL := 4) (ret := none) (by decide) rfl ?_
  intro p e s m args below meth c s₁ B hml hv
  obtain ⟨rfl, hsz, hP, hK, hD0, hE⟩ := hv
  have hx := B.exec
  have hb := B.bytes
  have hr := B.returns
  have hts0 := atoms_spec (ws := Cond.code yX8_putName cX8_putName 4 none :: lw_G) B.pre
  have hG : ∀ w ∈ lw_G, w.before _ s = true := fun w h => hts0 w (List.mem_cons_of_mem _ h)
  have hown : s.vm.findClass RX8 = some m.cls := findClass_of_methodNamed B.named
  have hlocks := B.notSynchronized
  subst hsz
  have hD := hD0.self (sz := s.heap.size)
  generalize hAe : va_A [(h0, .inr (8, [.ref h1, .ref h2, .int x2, .int x3, .int x4])), (h1, .inl (y0, 64, .inl f0))] s.heap.size = A at hD hE ⊢
  have hA : ∀ q : Nat, s.heap.size ≤ q → A q := fun q h => by rw [← hAe]; exact Or.inr h
  have hS : va_S A s.heap s.heap [] := va_S.rf
  have hP : va_P (dC, dI) vwCl [(h0, .inr (8, [.ref h1, .ref h2, .int x2, .int x3, .int x4])), (h1, .inl (y0, 64, .inl f0))] s.heap := hP
  have hl := lv_entry ([.ref h0, .int x0, .int x1]) (n := 4) (Nat.le_of_ble_eq_true rfl)
  rw [lg_entry_eq]
  generalize (lg_sl ([.ref h0, .int x0, .int x1]) ++ List.replicate (4 - (lg_sl ([.ref h0, .int x0, .int x1])).length) Slot.unset).toArray = ls at hl ⊢
  have hl : lv_has ls 4 [(0, .ref h0), (1, .int x0), (2, .int x1)] := hl
  generalize ([.ref h0, .int x0, .int x1] : List Value).toArray = ar at hG ⊢
  refine wq (fun Q hQ => ?_)
  refine lv_iconst (v := 0) hx hb dX8_putName_0 (by decide) ?_
  refine lv_istore_n (lv' := [(3, .int 0), (0, .ref h0), (1, .int x0), (2, .int x1)]) hx hb dX8_putName_1 rfl hl (by decide) rfl (fun ls hl => ?_)
  refine lv_iload_n hx hb dX8_putName_2 rfl (lv_at hl 0 rfl) ?_
  refine lv_iconst (v := 4) hx hb dX8_putName_3 (by decide) ?_
  refine lv_icmp_ge (tgt := 32) hx hb dX8_putName_4 (by decide) (fun c => absurd c (by decide)) (fun _ => ?_)
  refine lv_iload_n hx hb dX8_putName_7 rfl (lv_at hl 2 rfl) ?_
  refine lv_iload_n hx hb dX8_putName_8 rfl (lv_at hl 0 rfl) ?_
  obtain ⟨hPc, hDc, hFc⟩ := nv_sub3 (wc := []) hP hD hS hA [] (by decide) rfl
  have hKc := hK.sub (tys' := []) [] rfl
  refine va_calli (va_runS (As := [.int x0, .int 0]) (rest := []) ⟨hx, hb, hml, hown, hG⟩ (cX10_nameSign_1 l dC dI adK adV s.heap.size x0 0) (va_cwS 2 hG (gS wd_1193 wd_232 wd_11 wd_233) rfl rfl rfl (by decide +kernel) ⟨Nat.le_of_ble_eq_true rfl, Nat.le_of_ble_eq_true rfl⟩) ⟨fun a U g mk q => by obtain ⟨q0, q1, qP, qK, qD, qE⟩ := q; exact ⟨q0, q1, qP, va_K.moved (u := U) (U := U.calling g mk a) (Vm.Alike.refl U.vm) qK, qD, qE.same rfl⟩, fun U hU hW => ⟨rfl, by rw [hU], by rw [hU]; exact hPc, va_K.moved hW.alike hKc, hDc.weaken (fun _ _ _ _ => trivial), by rw [hU]; exact ((hE.kept hS.2.1).narrow hFc).warm hW⟩⟩ rfl rfl hl.1 rfl (lv_room (Nat.le_of_ble_eq_true rfl)) dX8_putName_9 ⟨by decide, by decide⟩) hS (fun q _ h => hFc q h) hFc (fun r1 u2 t H1 locs ht hvm hw hB hz1 hk1 hS => ?_)
  have hw : iv r1 0 65535 ∧ True := hw
  obtain ⟨ir1, -⟩ := hw
  obtain ⟨hP1, hK1, hD1⟩ := hB
  rw [ht] at hP1
  have hK1 := va_K.moved hvm.symm hK1
  obtain ⟨hP, hD⟩ := nv_join (wf := [(h0, .inr (8, [.ref h1, .ref h2, .int x2, .int x3, .int x4])), (h1, .inl (y0, 64, .inl f0))]) hP hD [] [0, 1] rfl rfl (by decide) (by decide) hk1 hFc hP1 hD1 rfl
  have hK := (hK.sub (tys' := [(y0, .int)]) [0] rfl).app hK1
  generalize H1 = H at hP hS ⊢
  have hK : va_K (dC, dI) vwCl [(y0, .int)] s := hK
  refine lv_bipush (v := 32) hx hb dX8_putName_12 (by decide) ?_
  refine jcut (a := ∀ (b29 : Int32) (b30 : Nat → Int32) (ib29 : iv b29 0 64) (H : Heap) (locs : List Loc) (hK : va_K (dC, dI) vwCl [(y0, .int)] s) (hP : va_P (dC, dI) vwCl [(h0, .inr (8, [.ref h1, .ref h2, .int b29, .int x3, .int x4])), (h1, .inl (y0, 64, .inl b30))] H) (hD : va_D A [(h0, .inr (8, [.ref h1, .ref h2, .int b29, .int x3, .int x4])), (h1, .inl (y0, 64, .inl b30))]) (hS : va_S A s.heap H locs) (ls : Array Slot) (hl : lv_has ls 4 [(0, .ref h0), (2, .int x1)]), W p l e (headSpec (Cond.code yX8_putName cX8_putName 4 none :: lw_G) ({ frames := 5, cells := 0, slots := 0, locals := 107 })).room s m ar below meth c H locs 0 0 Q (F0 m 32 ls [])) ?_ (fun j31 => ?_)
  · skip
    intro b29 b30 ib29 H locs hK hP hD hS ls hl
    refine lv_iload_n hx hb dX8_putName_32 rfl (lv_at hl 1 rfl) ?_
    refine jcut (a := ∀ (b37 : Int32) (b38 : Nat → Int32) (ib37 : iv b37 0 64) (H : Heap) (locs : List Loc) (hK : va_K (dC, dI) vwCl [(y0, .int)] s) (hP : va_P (dC, dI) vwCl [(h0, .inr (8, [.ref h1, .ref h2, .int b37, .int x3, .int x4])), (h1, .inl (y0, 64, .inl b38))] H) (hD : va_D A [(h0, .inr (8, [.ref h1, .ref h2, .int b37, .int x3, .int x4])), (h1, .inl (y0, 64, .inl b38))]) (hS : va_S A s.heap H locs) (ls : Array Slot) (hl : lv_has ls 4 [(0, .ref h0)]), W p l e (headSpec (Cond.code yX8_putName cX8_putName 4 none :: lw_G) ({ frames := 5, cells := 0, slots := 0, locals := 107 })).room s m ar below meth c H locs 0 0 Q (F0 m 48 ls [])) ?_ (fun j39 => ?_)
    · skip
      intro b37 b38 ib37 H locs hK hP hD hS ls hl
      refine lv_aload_n hx hb dX8_putName_48 rfl (lv_at hl 0 rfl) ?_
      refine lv_bipush (v := 32) hx hb dX8_putName_49 (by decide) ?_
      obtain ⟨hPc, hDc, hFc⟩ := nv_sub3 (wc := [(h0, .inr (8, [.ref h1, .ref h2, .int b37, .int x3, .int x4])), (h1, .inl (y0, 64, .inl b38))]) hP hD hS hA [0, 1] (by decide) rfl
      have hKc := hK.sub (tys' := [(y0, .int)]) [0] rfl
      refine va_callv (va_runV (As := [.int 32]) (rest := []) ⟨hx, hb, hml, hown, hG⟩ (cX8_put_1 l dC dI h0 h1 h2 y0 H.size 32 b37 x3 x4 b38 ib37) (cwV 1 hG (gV wd_1194 wd_1196 wp_57 wd_16 wd_1197) rfl rfl rfl (by decide +kernel) ⟨Nat.le_of_ble_eq_true rfl, Nat.le_of_ble_eq_true rfl⟩) ⟨fun a U g mk q => by obtain ⟨q0, q1, qP, qK, qD⟩ := q; exact ⟨q0, q1, qP, va_K.moved (u := U) (U := U.calling g mk a) (Vm.Alike.refl U.vm) qK, qD⟩, va_recv hKc hPc (ci := 8) (q0 := 0) rfl rfl, fun U hU hW => ⟨rfl, by rw [hU], by rw [hU]; exact hPc, va_K.moved hW.alike hKc, hDc.weaken (fun _ _ _ _ => trivial)⟩⟩ rfl rfl hl.1 rfl (lv_room (Nat.le_of_ble_eq_true rfl)) dX8_putName_51 ⟨by decide, by decide⟩) hS (fun q _ h => hFc q h) hFc (fun u41 t H1 locs ht hvm hw hB hz1 hk1 hS => ?_)
      obtain ⟨u41_0, u41_1⟩ := u41
      have hw : iv u41_0 1 64 ∧ True := hw
      obtain ⟨iu41_0, -⟩ := hw
      obtain ⟨hP1, hK1, hD1⟩ := hB
      rw [ht] at hP1
      have hK1 := va_K.moved hvm.symm hK1
      obtain ⟨hP, hD⟩ := nv_join (wf := [(h0, .inr (8, [.ref h1, .ref h2, .int u41_0, .int x3, .int x4])), (h1, .inl (y0, 64, .inl u41_1))]) hP hD [0, 1] [] rfl rfl (by decide) (by decide) hk1 hFc hP1 hD1 rfl
      have hK := (hK.sub (tys' := []) [] rfl).app hK1
      generalize H1 = H at hP hS ⊢
      have hK : va_K (dC, dI) vwCl [(y0, .int)] s := hK
      rw [hQ]
      obtain ⟨hP9, hD9⟩ := nv_sub2 (wc := [(h0, .inr (8, [.ref h1, .ref h2, .int u41_0, .int x3, .int x4])), (h1, .inl (y0, 64, .inl u41_1))]) hP hD [0, 1] (by decide) rfl
      have hK9 := hK.sub (tys' := [(y0, .int)]) [0] rfl
      exact W.vret hx hb hr (fun t ht hW => ⟨⟨(u41_0, u41_1), rfl, ⟨iv_w iu41_0 (by decide) (by decide), trivial⟩, by rw [ht]; exact hP9, va_K.moved hW.alike hK9, hD9⟩, hS.F ht⟩) hS.2.2 dX8_putName_54
    refine lv_if_eq (tgt := 48) hx hb dX8_putName_33 (by decide) (fun c32 => ?_) (fun c32 => ?_)
    · skip
      subst c32
      exact j39 b29 b30 ib29 _ _ hK hP hD hS ls (lv_sub hl [0] rfl)
    · skip
      refine lv_aload_n hx hb dX8_putName_36 rfl (lv_at hl 0 rfl) ?_
      refine lv_bipush (v := 46) hx hb dX8_putName_37 (by decide) ?_
      obtain ⟨hPc, hDc, hFc⟩ := nv_sub3 (wc := [(h0, .inr (8, [.ref h1, .ref h2, .int b29, .int x3, .int x4])), (h1, .inl (y0, 64, .inl b30))]) hP hD hS hA [0, 1] (by decide) rfl
      have hKc := hK.sub (tys' := [(y0, .int)]) [0] rfl
      refine va_callv (va_runV (As := [.int 46]) (rest := []) ⟨hx, hb, hml, hown, hG⟩ (cX8_put_1 l dC dI h0 h1 h2 y0 H.size 46 b29 x3 x4 b30 ib29) (cwV 1 hG (gV wd_1194 wd_1196 wp_57 wd_16 wd_1197) rfl rfl rfl (by decide +kernel) ⟨Nat.le_of_ble_eq_true rfl, Nat.le_of_ble_eq_true rfl⟩) ⟨fun a U g mk q => by obtain ⟨q0, q1, qP, qK, qD⟩ := q; exact ⟨q0, q1, qP, va_K.moved (u := U) (U := U.calling g mk a) (Vm.Alike.refl U.vm) qK, qD⟩, va_recv hKc hPc (ci := 8) (q0 := 0) rfl rfl, fun U hU hW => ⟨rfl, by rw [hU], by rw [hU]; exact hPc, va_K.moved hW.alike hKc, hDc.weaken (fun _ _ _ _ => trivial)⟩⟩ rfl rfl hl.1 rfl (lv_room (Nat.le_of_ble_eq_true rfl)) dX8_putName_39 ⟨by decide, by decide⟩) hS (fun q _ h => hFc q h) hFc (fun u43 t H1 locs ht hvm hw hB hz1 hk1 hS => ?_)
      obtain ⟨u43_0, u43_1⟩ := u43
      have hw : iv u43_0 1 64 ∧ True := hw
      obtain ⟨iu43_0, -⟩ := hw
      obtain ⟨hP1, hK1, hD1⟩ := hB
      rw [ht] at hP1
      have hK1 := va_K.moved hvm.symm hK1
      obtain ⟨hP, hD⟩ := nv_join (wf := [(h0, .inr (8, [.ref h1, .ref h2, .int u43_0, .int x3, .int x4])), (h1, .inl (y0, 64, .inl u43_1))]) hP hD [0, 1] [] rfl rfl (by decide) (by decide) hk1 hFc hP1 hD1 rfl
      have hK := (hK.sub (tys' := []) [] rfl).app hK1
      generalize H1 = H at hP hS ⊢
      have hK : va_K (dC, dI) vwCl [(y0, .int)] s := hK
      refine lv_aload_n hx hb dX8_putName_42 rfl (lv_at hl 0 rfl) ?_
      refine lv_bipush (v := 98) hx hb dX8_putName_43 (by decide) ?_
      obtain ⟨hPc, hDc, hFc⟩ := nv_sub3 (wc := [(h0, .inr (8, [.ref h1, .ref h2, .int u43_0, .int x3, .int x4])), (h1, .inl (y0, 64, .inl u43_1))]) hP hD hS hA [0, 1] (by decide) rfl
      have hKc := hK.sub (tys' := [(y0, .int)]) [0] rfl
      refine va_callv (va_runV (As := [.int 98]) (rest := []) ⟨hx, hb, hml, hown, hG⟩ (cX8_put_1 l dC dI h0 h1 h2 y0 H.size 98 u43_0 x3 x4 u43_1 (iv_w iu43_0 (by decide) (by decide))) (cwV 1 hG (gV wd_1194 wd_1196 wp_57 wd_16 wd_1197) rfl rfl rfl (by decide +kernel) ⟨Nat.le_of_ble_eq_true rfl, Nat.le_of_ble_eq_true rfl⟩) ⟨fun a U g mk q => by obtain ⟨q0, q1, qP, qK, qD⟩ := q; exact ⟨q0, q1, qP, va_K.moved (u := U) (U := U.calling g mk a) (Vm.Alike.refl U.vm) qK, qD⟩, va_recv hKc hPc (ci := 8) (q0 := 0) rfl rfl, fun U hU hW => ⟨rfl, by rw [hU], by rw [hU]; exact hPc, va_K.moved hW.alike hKc, hDc.weaken (fun _ _ _ _ => trivial)⟩⟩ rfl rfl hl.1 rfl (lv_room (Nat.le_of_ble_eq_true rfl)) dX8_putName_45 ⟨by decide, by decide⟩) hS (fun q _ h => hFc q h) hFc (fun u45 t H1 locs ht hvm hw hB hz1 hk1 hS => ?_)
      obtain ⟨u45_0, u45_1⟩ := u45
      have hw : iv u45_0 1 64 ∧ True := hw
      obtain ⟨iu45_0, -⟩ := hw
      obtain ⟨hP1, hK1, hD1⟩ := hB
      rw [ht] at hP1
      have hK1 := va_K.moved hvm.symm hK1
      obtain ⟨hP, hD⟩ := nv_join (wf := [(h0, .inr (8, [.ref h1, .ref h2, .int u45_0, .int x3, .int x4])), (h1, .inl (y0, 64, .inl u45_1))]) hP hD [0, 1] [] rfl rfl (by decide) (by decide) hk1 hFc hP1 hD1 rfl
      have hK := (hK.sub (tys' := []) [] rfl).app hK1
      generalize H1 = H at hP hS ⊢
      have hK : va_K (dC, dI) vwCl [(y0, .int)] s := hK
      exact j39 u45_0 u45_1 (iv_w iu45_0 (by decide) (by decide)) _ _ hK hP hD hS ls (lv_sub hl [0] rfl)
  refine lv_icmp_eq (tgt := 32) hx hb dX8_putName_14 (by decide) (fun c3 => ?_) (fun c3 => ?_)
  · skip
    subst c3
    exact j31 x2 f0 ix2 _ _ hK hP hD hS ls (lv_sub hl [1, 3] rfl)
  · skip
    refine lv_aload_n hx hb dX8_putName_17 rfl (lv_at hl 1 rfl) ?_
    refine lv_iload_n hx hb dX8_putName_18 rfl (lv_at hl 2 rfl) ?_
    refine lv_iload_n hx hb dX8_putName_19 rfl (lv_at hl 0 rfl) ?_
    obtain ⟨hPc, hDc, hFc⟩ := nv_sub3 (wc := []) hP hD hS hA [] (by decide) rfl
    have hKc := hK.sub (tys' := []) [] rfl
    refine va_calli (va_runS (As := [.int x0, .int 0]) (rest := [.ref h0]) ⟨hx, hb, hml, hown, hG⟩ (cX10_nameSign_1 l dC dI adK adV H.size x0 0) (va_cwS 2 hG (gS wd_1193 wd_232 wd_11 wd_233) rfl rfl rfl (by decide +kernel) ⟨Nat.le_of_ble_eq_true rfl, Nat.le_of_ble_eq_true rfl⟩) ⟨fun a U g mk q => by obtain ⟨q0, q1, qP, qK, qD, qE⟩ := q; exact ⟨q0, q1, qP, va_K.moved (u := U) (U := U.calling g mk a) (Vm.Alike.refl U.vm) qK, qD, qE.same rfl⟩, fun U hU hW => ⟨rfl, by rw [hU], by rw [hU]; exact hPc, va_K.moved hW.alike hKc, hDc.weaken (fun _ _ _ _ => trivial), by rw [hU]; exact ((hE.kept hS.2.1).narrow hFc).warm hW⟩⟩ rfl rfl hl.1 rfl (lv_room (Nat.le_of_ble_eq_true rfl)) dX8_putName_20 ⟨by decide, by decide⟩) hS (fun q _ h => hFc q h) hFc (fun r46 u47 t H1 locs ht hvm hw hB hz1 hk1 hS => ?_)
    have hw : iv r46 0 65535 ∧ True := hw
    obtain ⟨ir46, -⟩ := hw
    obtain ⟨hP1, hK1, hD1⟩ := hB
    rw [ht] at hP1
    have hK1 := va_K.moved hvm.symm hK1
    obtain ⟨hP, hD⟩ := nv_join (wf := [(h0, .inr (8, [.ref h1, .ref h2, .int x2, .int x3, .int x4])), (h1, .inl (y0, 64, .inl f0))]) hP hD [] [0, 1] rfl rfl (by decide) (by decide) hk1 hFc hP1 hD1 rfl
    have hK := (hK.sub (tys' := [(y0, .int)]) [0] rfl).app hK1
    generalize H1 = H at hP hS ⊢
    have hK : va_K (dC, dI) vwCl [(y0, .int)] s := hK
    obtain ⟨hPc, hDc, hFc⟩ := nv_sub3 (wc := [(h0, .inr (8, [.ref h1, .ref h2, .int x2, .int x3, .int x4])), (h1, .inl (y0, 64, .inl f0))]) hP hD hS hA [0, 1] (by decide) rfl
    have hKc := hK.sub (tys' := [(y0, .int)]) [0] rfl
    refine va_callv (va_runV (As := [.int r46]) (rest := []) ⟨hx, hb, hml, hown, hG⟩ (cX8_put_1 l dC dI h0 h1 h2 y0 H.size r46 x2 x3 x4 f0 ix2) (cwV 1 hG (gV wd_1194 wd_1196 wp_57 wd_16 wd_1197) rfl rfl rfl (by decide +kernel) ⟨Nat.le_of_ble_eq_true rfl, Nat.le_of_ble_eq_true rfl⟩) ⟨fun a U g mk q => by obtain ⟨q0, q1, qP, qK, qD⟩ := q; exact ⟨q0, q1, qP, va_K.moved (u := U) (U := U.calling g mk a) (Vm.Alike.refl U.vm) qK, qD⟩, va_recv hKc hPc (ci := 8) (q0 := 0) rfl rfl, fun U hU hW => ⟨rfl, by rw [hU], by rw [hU]; exact hPc, va_K.moved hW.alike hKc, hDc.weaken (fun _ _ _ _ => trivial)⟩⟩ rfl rfl hl.1 rfl (lv_room (Nat.le_of_ble_eq_true rfl)) dX8_putName_23 ⟨by decide, by decide⟩) hS (fun q _ h => hFc q h) hFc (fun u49 t H1 locs ht hvm hw hB hz1 hk1 hS => ?_)
    obtain ⟨u49_0, u49_1⟩ := u49
    have hw : iv u49_0 1 64 ∧ True := hw
    obtain ⟨iu49_0, -⟩ := hw
    obtain ⟨hP1, hK1, hD1⟩ := hB
    rw [ht] at hP1
    have hK1 := va_K.moved hvm.symm hK1
    obtain ⟨hP, hD⟩ := nv_join (wf := [(h0, .inr (8, [.ref h1, .ref h2, .int u49_0, .int x3, .int x4])), (h1, .inl (y0, 64, .inl u49_1))]) hP hD [0, 1] [] rfl rfl (by decide) (by decide) hk1 hFc hP1 hD1 rfl
    have hK := (hK.sub (tys' := []) [] rfl).app hK1
    generalize H1 = H at hP hS ⊢
    have hK : va_K (dC, dI) vwCl [(y0, .int)] s := hK
    refine lv_iinc (v := 1) (lv' := [(3, .int 1), (0, .ref h0), (1, .int x0), (2, .int x1)]) hx hb dX8_putName_26 hl (k := 0) rfl (by decide) (by decide) rfl (fun ls hl => ?_)
    refine lv_goto (tgt := 2) hx hb dX8_putName_29 (by decide) ?_
    refine lv_iload_n hx hb dX8_putName_2 rfl (lv_at hl 0 rfl) ?_
    refine lv_iconst (v := 4) hx hb dX8_putName_3 (by decide) ?_
    refine lv_icmp_ge (tgt := 32) hx hb dX8_putName_4 (by decide) (fun c => absurd c (by decide)) (fun _ => ?_)
    refine lv_iload_n hx hb dX8_putName_7 rfl (lv_at hl 2 rfl) ?_
    refine lv_iload_n hx hb dX8_putName_8 rfl (lv_at hl 0 rfl) ?_
    obtain ⟨hPc, hDc, hFc⟩ := nv_sub3 (wc := []) hP hD hS hA [] (by decide) rfl
    have hKc := hK.sub (tys' := []) [] rfl
    refine va_calli (va_runS (As := [.int x0, .int 1]) (rest := []) ⟨hx, hb, hml, hown, hG⟩ (cX10_nameSign_1 l dC dI adK adV H.size x0 1) (va_cwS 2 hG (gS wd_1193 wd_232 wd_11 wd_233) rfl rfl rfl (by decide +kernel) ⟨Nat.le_of_ble_eq_true rfl, Nat.le_of_ble_eq_true rfl⟩) ⟨fun a U g mk q => by obtain ⟨q0, q1, qP, qK, qD, qE⟩ := q; exact ⟨q0, q1, qP, va_K.moved (u := U) (U := U.calling g mk a) (Vm.Alike.refl U.vm) qK, qD, qE.same rfl⟩, fun U hU hW => ⟨rfl, by rw [hU], by rw [hU]; exact hPc, va_K.moved hW.alike hKc, hDc.weaken (fun _ _ _ _ => trivial), by rw [hU]; exact ((hE.kept hS.2.1).narrow hFc).warm hW⟩⟩ rfl rfl hl.1 rfl (lv_room (Nat.le_of_ble_eq_true rfl)) dX8_putName_9 ⟨by decide, by decide⟩) hS (fun q _ h => hFc q h) hFc (fun r50 u51 t H1 locs ht hvm hw hB hz1 hk1 hS => ?_)
    have hw : iv r50 0 65535 ∧ True := hw
    obtain ⟨ir50, -⟩ := hw
    obtain ⟨hP1, hK1, hD1⟩ := hB
    rw [ht] at hP1
    have hK1 := va_K.moved hvm.symm hK1
    obtain ⟨hP, hD⟩ := nv_join (wf := [(h0, .inr (8, [.ref h1, .ref h2, .int u49_0, .int x3, .int x4])), (h1, .inl (y0, 64, .inl u49_1))]) hP hD [] [0, 1] rfl rfl (by decide) (by decide) hk1 hFc hP1 hD1 rfl
    have hK := (hK.sub (tys' := [(y0, .int)]) [0] rfl).app hK1
    generalize H1 = H at hP hS ⊢
    have hK : va_K (dC, dI) vwCl [(y0, .int)] s := hK
    refine lv_bipush (v := 32) hx hb dX8_putName_12 (by decide) ?_
    refine lv_icmp_eq (tgt := 32) hx hb dX8_putName_14 (by decide) (fun c52 => ?_) (fun c52 => ?_)
    · skip
      subst c52
      exact j31 u49_0 u49_1 (iv_w iu49_0 (by decide) (by decide)) _ _ hK hP hD hS ls (lv_sub hl [1, 3] rfl)
    · skip
      refine lv_aload_n hx hb dX8_putName_17 rfl (lv_at hl 1 rfl) ?_
      refine lv_iload_n hx hb dX8_putName_18 rfl (lv_at hl 2 rfl) ?_
      refine lv_iload_n hx hb dX8_putName_19 rfl (lv_at hl 0 rfl) ?_
      obtain ⟨hPc, hDc, hFc⟩ := nv_sub3 (wc := []) hP hD hS hA [] (by decide) rfl
      have hKc := hK.sub (tys' := []) [] rfl
      refine va_calli (va_runS (As := [.int x0, .int 1]) (rest := [.ref h0]) ⟨hx, hb, hml, hown, hG⟩ (cX10_nameSign_1 l dC dI adK adV H.size x0 1) (va_cwS 2 hG (gS wd_1193 wd_232 wd_11 wd_233) rfl rfl rfl (by decide +kernel) ⟨Nat.le_of_ble_eq_true rfl, Nat.le_of_ble_eq_true rfl⟩) ⟨fun a U g mk q => by obtain ⟨q0, q1, qP, qK, qD, qE⟩ := q; exact ⟨q0, q1, qP, va_K.moved (u := U) (U := U.calling g mk a) (Vm.Alike.refl U.vm) qK, qD, qE.same rfl⟩, fun U hU hW => ⟨rfl, by rw [hU], by rw [hU]; exact hPc, va_K.moved hW.alike hKc, hDc.weaken (fun _ _ _ _ => trivial), by rw [hU]; exact ((hE.kept hS.2.1).narrow hFc).warm hW⟩⟩ rfl rfl hl.1 rfl (lv_room (Nat.le_of_ble_eq_true rfl)) dX8_putName_20 ⟨by decide, by decide⟩) hS (fun q _ h => hFc q h) hFc (fun r53 u54 t H1 locs ht hvm hw hB hz1 hk1 hS => ?_)
      have hw : iv r53 0 65535 ∧ True := hw
      obtain ⟨ir53, -⟩ := hw
      obtain ⟨hP1, hK1, hD1⟩ := hB
      rw [ht] at hP1
      have hK1 := va_K.moved hvm.symm hK1
      obtain ⟨hP, hD⟩ := nv_join (wf := [(h0, .inr (8, [.ref h1, .ref h2, .int u49_0, .int x3, .int x4])), (h1, .inl (y0, 64, .inl u49_1))]) hP hD [] [0, 1] rfl rfl (by decide) (by decide) hk1 hFc hP1 hD1 rfl
      have hK := (hK.sub (tys' := [(y0, .int)]) [0] rfl).app hK1
      generalize H1 = H at hP hS ⊢
      have hK : va_K (dC, dI) vwCl [(y0, .int)] s := hK
      obtain ⟨hPc, hDc, hFc⟩ := nv_sub3 (wc := [(h0, .inr (8, [.ref h1, .ref h2, .int u49_0, .int x3, .int x4])), (h1, .inl (y0, 64, .inl u49_1))]) hP hD hS hA [0, 1] (by decide) rfl
      have hKc := hK.sub (tys' := [(y0, .int)]) [0] rfl
      refine va_callv (va_runV (As := [.int r53]) (rest := []) ⟨hx, hb, hml, hown, hG⟩ (cX8_put_1 l dC dI h0 h1 h2 y0 H.size r53 u49_0 x3 x4 u49_1 (iv_w iu49_0 (by decide) (by decide))) (cwV 1 hG (gV wd_1194 wd_1196 wp_57 wd_16 wd_1197) rfl rfl rfl (by decide +kernel) ⟨Nat.le_of_ble_eq_true rfl, Nat.le_of_ble_eq_true rfl⟩) ⟨fun a U g mk q => by obtain ⟨q0, q1, qP, qK, qD⟩ := q; exact ⟨q0, q1, qP, va_K.moved (u := U) (U := U.calling g mk a) (Vm.Alike.refl U.vm) qK, qD⟩, va_recv hKc hPc (ci := 8) (q0 := 0) rfl rfl, fun U hU hW => ⟨rfl, by rw [hU], by rw [hU]; exact hPc, va_K.moved hW.alike hKc, hDc.weaken (fun _ _ _ _ => trivial)⟩⟩ rfl rfl hl.1 rfl (lv_room (Nat.le_of_ble_eq_true rfl)) dX8_putName_23 ⟨by decide, by decide⟩) hS (fun q _ h => hFc q h) hFc (fun u56 t H1 locs ht hvm hw hB hz1 hk1 hS => ?_)
      obtain ⟨u56_0, u56_1⟩ := u56
      have hw : iv u56_0 1 64 ∧ True := hw
      obtain ⟨iu56_0, -⟩ := hw
      obtain ⟨hP1, hK1, hD1⟩ := hB
      rw [ht] at hP1
      have hK1 := va_K.moved hvm.symm hK1
      obtain ⟨hP, hD⟩ := nv_join (wf := [(h0, .inr (8, [.ref h1, .ref h2, .int u56_0, .int x3, .int x4])), (h1, .inl (y0, 64, .inl u56_1))]) hP hD [0, 1] [] rfl rfl (by decide) (by decide) hk1 hFc hP1 hD1 rfl
      have hK := (hK.sub (tys' := []) [] rfl).app hK1
      generalize H1 = H at hP hS ⊢
      have hK : va_K (dC, dI) vwCl [(y0, .int)] s := hK
      refine lv_iinc (v := 2) (lv' := [(3, .int 2), (0, .ref h0), (1, .int x0), (2, .int x1)]) hx hb dX8_putName_26 hl (k := 0) rfl (by decide) (by decide) rfl (fun ls hl => ?_)
      refine lv_goto (tgt := 2) hx hb dX8_putName_29 (by decide) ?_
      refine lv_iload_n hx hb dX8_putName_2 rfl (lv_at hl 0 rfl) ?_
      refine lv_iconst (v := 4) hx hb dX8_putName_3 (by decide) ?_
      refine lv_icmp_ge (tgt := 32) hx hb dX8_putName_4 (by decide) (fun c => absurd c (by decide)) (fun _ => ?_)
      refine lv_iload_n hx hb dX8_putName_7 rfl (lv_at hl 2 rfl) ?_
      refine lv_iload_n hx hb dX8_putName_8 rfl (lv_at hl 0 rfl) ?_
      obtain ⟨hPc, hDc, hFc⟩ := nv_sub3 (wc := []) hP hD hS hA [] (by decide) rfl
      have hKc := hK.sub (tys' := []) [] rfl
      refine va_calli (va_runS (As := [.int x0, .int 2]) (rest := []) ⟨hx, hb, hml, hown, hG⟩ (cX10_nameSign_1 l dC dI adK adV H.size x0 2) (va_cwS 2 hG (gS wd_1193 wd_232 wd_11 wd_233) rfl rfl rfl (by decide +kernel) ⟨Nat.le_of_ble_eq_true rfl, Nat.le_of_ble_eq_true rfl⟩) ⟨fun a U g mk q => by obtain ⟨q0, q1, qP, qK, qD, qE⟩ := q; exact ⟨q0, q1, qP, va_K.moved (u := U) (U := U.calling g mk a) (Vm.Alike.refl U.vm) qK, qD, qE.same rfl⟩, fun U hU hW => ⟨rfl, by rw [hU], by rw [hU]; exact hPc, va_K.moved hW.alike hKc, hDc.weaken (fun _ _ _ _ => trivial), by rw [hU]; exact ((hE.kept hS.2.1).narrow hFc).warm hW⟩⟩ rfl rfl hl.1 rfl (lv_room (Nat.le_of_ble_eq_true rfl)) dX8_putName_9 ⟨by decide, by decide⟩) hS (fun q _ h => hFc q h) hFc (fun r57 u58 t H1 locs ht hvm hw hB hz1 hk1 hS => ?_)
      have hw : iv r57 0 65535 ∧ True := hw
      obtain ⟨ir57, -⟩ := hw
      obtain ⟨hP1, hK1, hD1⟩ := hB
      rw [ht] at hP1
      have hK1 := va_K.moved hvm.symm hK1
      obtain ⟨hP, hD⟩ := nv_join (wf := [(h0, .inr (8, [.ref h1, .ref h2, .int u56_0, .int x3, .int x4])), (h1, .inl (y0, 64, .inl u56_1))]) hP hD [] [0, 1] rfl rfl (by decide) (by decide) hk1 hFc hP1 hD1 rfl
      have hK := (hK.sub (tys' := [(y0, .int)]) [0] rfl).app hK1
      generalize H1 = H at hP hS ⊢
      have hK : va_K (dC, dI) vwCl [(y0, .int)] s := hK
      refine lv_bipush (v := 32) hx hb dX8_putName_12 (by decide) ?_
      refine lv_icmp_eq (tgt := 32) hx hb dX8_putName_14 (by decide) (fun c59 => ?_) (fun c59 => ?_)
      · skip
        subst c59
        exact j31 u56_0 u56_1 (iv_w iu56_0 (by decide) (by decide)) _ _ hK hP hD hS ls (lv_sub hl [1, 3] rfl)
      · skip
        refine lv_aload_n hx hb dX8_putName_17 rfl (lv_at hl 1 rfl) ?_
        refine lv_iload_n hx hb dX8_putName_18 rfl (lv_at hl 2 rfl) ?_
        refine lv_iload_n hx hb dX8_putName_19 rfl (lv_at hl 0 rfl) ?_
        obtain ⟨hPc, hDc, hFc⟩ := nv_sub3 (wc := []) hP hD hS hA [] (by decide) rfl
        have hKc := hK.sub (tys' := []) [] rfl
        refine va_calli (va_runS (As := [.int x0, .int 2]) (rest := [.ref h0]) ⟨hx, hb, hml, hown, hG⟩ (cX10_nameSign_1 l dC dI adK adV H.size x0 2) (va_cwS 2 hG (gS wd_1193 wd_232 wd_11 wd_233) rfl rfl rfl (by decide +kernel) ⟨Nat.le_of_ble_eq_true rfl, Nat.le_of_ble_eq_true rfl⟩) ⟨fun a U g mk q => by obtain ⟨q0, q1, qP, qK, qD, qE⟩ := q; exact ⟨q0, q1, qP, va_K.moved (u := U) (U := U.calling g mk a) (Vm.Alike.refl U.vm) qK, qD, qE.same rfl⟩, fun U hU hW => ⟨rfl, by rw [hU], by rw [hU]; exact hPc, va_K.moved hW.alike hKc, hDc.weaken (fun _ _ _ _ => trivial), by rw [hU]; exact ((hE.kept hS.2.1).narrow hFc).warm hW⟩⟩ rfl rfl hl.1 rfl (lv_room (Nat.le_of_ble_eq_true rfl)) dX8_putName_20 ⟨by decide, by decide⟩) hS (fun q _ h => hFc q h) hFc (fun r60 u61 t H1 locs ht hvm hw hB hz1 hk1 hS => ?_)
        have hw : iv r60 0 65535 ∧ True := hw
        obtain ⟨ir60, -⟩ := hw
        obtain ⟨hP1, hK1, hD1⟩ := hB
        rw [ht] at hP1
        have hK1 := va_K.moved hvm.symm hK1
        obtain ⟨hP, hD⟩ := nv_join (wf := [(h0, .inr (8, [.ref h1, .ref h2, .int u56_0, .int x3, .int x4])), (h1, .inl (y0, 64, .inl u56_1))]) hP hD [] [0, 1] rfl rfl (by decide) (by decide) hk1 hFc hP1 hD1 rfl
        have hK := (hK.sub (tys' := [(y0, .int)]) [0] rfl).app hK1
        generalize H1 = H at hP hS ⊢
        have hK : va_K (dC, dI) vwCl [(y0, .int)] s := hK
        obtain ⟨hPc, hDc, hFc⟩ := nv_sub3 (wc := [(h0, .inr (8, [.ref h1, .ref h2, .int u56_0, .int x3, .int x4])), (h1, .inl (y0, 64, .inl u56_1))]) hP hD hS hA [0, 1] (by decide) rfl
        have hKc := hK.sub (tys' := [(y0, .int)]) [0] rfl
        refine va_callv (va_runV (As := [.int r60]) (rest := []) ⟨hx, hb, hml, hown, hG⟩ (cX8_put_1 l dC dI h0 h1 h2 y0 H.size r60 u56_0 x3 x4 u56_1 (iv_w iu56_0 (by decide) (by decide))) (cwV 1 hG (gV wd_1194 wd_1196 wp_57 wd_16 wd_1197) rfl rfl rfl (by decide +kernel) ⟨Nat.le_of_ble_eq_true rfl, Nat.le_of_ble_eq_true rfl⟩) ⟨fun a U g mk q => by obtain ⟨q0, q1, qP, qK, qD⟩ := q; exact ⟨q0, q1, qP, va_K.moved (u := U) (U := U.calling g mk a) (Vm.Alike.refl U.vm) qK, qD⟩, va_recv hKc hPc (ci := 8) (q0 := 0) rfl rfl, fun U hU hW => ⟨rfl, by rw [hU], by rw [hU]; exact hPc, va_K.moved hW.alike hKc, hDc.weaken (fun _ _ _ _ => trivial)⟩⟩ rfl rfl hl.1 rfl (lv_room (Nat.le_of_ble_eq_true rfl)) dX8_putName_23 ⟨by decide, by decide⟩) hS (fun q _ h => hFc q h) hFc (fun u63 t H1 locs ht hvm hw hB hz1 hk1 hS => ?_)
        obtain ⟨u63_0, u63_1⟩ := u63
        have hw : iv u63_0 1 64 ∧ True := hw
        obtain ⟨iu63_0, -⟩ := hw
        obtain ⟨hP1, hK1, hD1⟩ := hB
        rw [ht] at hP1
        have hK1 := va_K.moved hvm.symm hK1
        obtain ⟨hP, hD⟩ := nv_join (wf := [(h0, .inr (8, [.ref h1, .ref h2, .int u63_0, .int x3, .int x4])), (h1, .inl (y0, 64, .inl u63_1))]) hP hD [0, 1] [] rfl rfl (by decide) (by decide) hk1 hFc hP1 hD1 rfl
        have hK := (hK.sub (tys' := []) [] rfl).app hK1
        generalize H1 = H at hP hS ⊢
        have hK : va_K (dC, dI) vwCl [(y0, .int)] s := hK
        refine lv_iinc (v := 3) (lv' := [(3, .int 3), (0, .ref h0), (1, .int x0), (2, .int x1)]) hx hb dX8_putName_26 hl (k := 0) rfl (by decide) (by decide) rfl (fun ls hl => ?_)
        refine lv_goto (tgt := 2) hx hb dX8_putName_29 (by decide) ?_
        refine lv_iload_n hx hb dX8_putName_2 rfl (lv_at hl 0 rfl) ?_
        refine lv_iconst (v := 4) hx hb dX8_putName_3 (by decide) ?_
        refine lv_icmp_ge (tgt := 32) hx hb dX8_putName_4 (by decide) (fun c => absurd c (by decide)) (fun _ => ?_)
        refine lv_iload_n hx hb dX8_putName_7 rfl (lv_at hl 2 rfl) ?_
        refine lv_iload_n hx hb dX8_putName_8 rfl (lv_at hl 0 rfl) ?_
        obtain ⟨hPc, hDc, hFc⟩ := nv_sub3 (wc := []) hP hD hS hA [] (by decide) rfl
        have hKc := hK.sub (tys' := []) [] rfl
        refine va_calli (va_runS (As := [.int x0, .int 3]) (rest := []) ⟨hx, hb, hml, hown, hG⟩ (cX10_nameSign_1 l dC dI adK adV H.size x0 3) (va_cwS 2 hG (gS wd_1193 wd_232 wd_11 wd_233) rfl rfl rfl (by decide +kernel) ⟨Nat.le_of_ble_eq_true rfl, Nat.le_of_ble_eq_true rfl⟩) ⟨fun a U g mk q => by obtain ⟨q0, q1, qP, qK, qD, qE⟩ := q; exact ⟨q0, q1, qP, va_K.moved (u := U) (U := U.calling g mk a) (Vm.Alike.refl U.vm) qK, qD, qE.same rfl⟩, fun U hU hW => ⟨rfl, by rw [hU], by rw [hU]; exact hPc, va_K.moved hW.alike hKc, hDc.weaken (fun _ _ _ _ => trivial), by rw [hU]; exact ((hE.kept hS.2.1).narrow hFc).warm hW⟩⟩ rfl rfl hl.1 rfl (lv_room (Nat.le_of_ble_eq_true rfl)) dX8_putName_9 ⟨by decide, by decide⟩) hS (fun q _ h => hFc q h) hFc (fun r64 u65 t H1 locs ht hvm hw hB hz1 hk1 hS => ?_)
        have hw : iv r64 0 65535 ∧ True := hw
        obtain ⟨ir64, -⟩ := hw
        obtain ⟨hP1, hK1, hD1⟩ := hB
        rw [ht] at hP1
        have hK1 := va_K.moved hvm.symm hK1
        obtain ⟨hP, hD⟩ := nv_join (wf := [(h0, .inr (8, [.ref h1, .ref h2, .int u63_0, .int x3, .int x4])), (h1, .inl (y0, 64, .inl u63_1))]) hP hD [] [0, 1] rfl rfl (by decide) (by decide) hk1 hFc hP1 hD1 rfl
        have hK := (hK.sub (tys' := [(y0, .int)]) [0] rfl).app hK1
        generalize H1 = H at hP hS ⊢
        have hK : va_K (dC, dI) vwCl [(y0, .int)] s := hK
        refine lv_bipush (v := 32) hx hb dX8_putName_12 (by decide) ?_
        refine lv_icmp_eq (tgt := 32) hx hb dX8_putName_14 (by decide) (fun c66 => ?_) (fun c66 => ?_)
        · skip
          subst c66
          exact j31 u63_0 u63_1 (iv_w iu63_0 (by decide) (by decide)) _ _ hK hP hD hS ls (lv_sub hl [1, 3] rfl)
        · skip
          refine lv_aload_n hx hb dX8_putName_17 rfl (lv_at hl 1 rfl) ?_
          refine lv_iload_n hx hb dX8_putName_18 rfl (lv_at hl 2 rfl) ?_
          refine lv_iload_n hx hb dX8_putName_19 rfl (lv_at hl 0 rfl) ?_
          obtain ⟨hPc, hDc, hFc⟩ := nv_sub3 (wc := []) hP hD hS hA [] (by decide) rfl
          have hKc := hK.sub (tys' := []) [] rfl
          refine va_calli (va_runS (As := [.int x0, .int 3]) (rest := [.ref h0]) ⟨hx, hb, hml, hown, hG⟩ (cX10_nameSign_1 l dC dI adK adV H.size x0 3) (va_cwS 2 hG (gS wd_1193 wd_232 wd_11 wd_233) rfl rfl rfl (by decide +kernel) ⟨Nat.le_of_ble_eq_true rfl, Nat.le_of_ble_eq_true rfl⟩) ⟨fun a U g mk q => by obtain ⟨q0, q1, qP, qK, qD, qE⟩ := q; exact ⟨q0, q1, qP, va_K.moved (u := U) (U := U.calling g mk a) (Vm.Alike.refl U.vm) qK, qD, qE.same rfl⟩, fun U hU hW => ⟨rfl, by rw [hU], by rw [hU]; exact hPc, va_K.moved hW.alike hKc, hDc.weaken (fun _ _ _ _ => trivial), by rw [hU]; exact ((hE.kept hS.2.1).narrow hFc).warm hW⟩⟩ rfl rfl hl.1 rfl (lv_room (Nat.le_of_ble_eq_true rfl)) dX8_putName_20 ⟨by decide, by decide⟩) hS (fun q _ h => hFc q h) hFc (fun r67 u68 t H1 locs ht hvm hw hB hz1 hk1 hS => ?_)
          have hw : iv r67 0 65535 ∧ True := hw
          obtain ⟨ir67, -⟩ := hw
          obtain ⟨hP1, hK1, hD1⟩ := hB
          rw [ht] at hP1
          have hK1 := va_K.moved hvm.symm hK1
          obtain ⟨hP, hD⟩ := nv_join (wf := [(h0, .inr (8, [.ref h1, .ref h2, .int u63_0, .int x3, .int x4])), (h1, .inl (y0, 64, .inl u63_1))]) hP hD [] [0, 1] rfl rfl (by decide) (by decide) hk1 hFc hP1 hD1 rfl
          have hK := (hK.sub (tys' := [(y0, .int)]) [0] rfl).app hK1
          generalize H1 = H at hP hS ⊢
          have hK : va_K (dC, dI) vwCl [(y0, .int)] s := hK
          obtain ⟨hPc, hDc, hFc⟩ := nv_sub3 (wc := [(h0, .inr (8, [.ref h1, .ref h2, .int u63_0, .int x3, .int x4])), (h1, .inl (y0, 64, .inl u63_1))]) hP hD hS hA [0, 1] (by decide) rfl
          have hKc := hK.sub (tys' := [(y0, .int)]) [0] rfl
          refine va_callv (va_runV (As := [.int r67]) (rest := []) ⟨hx, hb, hml, hown, hG⟩ (cX8_put_1 l dC dI h0 h1 h2 y0 H.size r67 u63_0 x3 x4 u63_1 (iv_w iu63_0 (by decide) (by decide))) (cwV 1 hG (gV wd_1194 wd_1196 wp_57 wd_16 wd_1197) rfl rfl rfl (by decide +kernel) ⟨Nat.le_of_ble_eq_true rfl, Nat.le_of_ble_eq_true rfl⟩) ⟨fun a U g mk q => by obtain ⟨q0, q1, qP, qK, qD⟩ := q; exact ⟨q0, q1, qP, va_K.moved (u := U) (U := U.calling g mk a) (Vm.Alike.refl U.vm) qK, qD⟩, va_recv hKc hPc (ci := 8) (q0 := 0) rfl rfl, fun U hU hW => ⟨rfl, by rw [hU], by rw [hU]; exact hPc, va_K.moved hW.alike hKc, hDc.weaken (fun _ _ _ _ => trivial)⟩⟩ rfl rfl hl.1 rfl (lv_room (Nat.le_of_ble_eq_true rfl)) dX8_putName_23 ⟨by decide, by decide⟩) hS (fun q _ h => hFc q h) hFc (fun u70 t H1 locs ht hvm hw hB hz1 hk1 hS => ?_)
          obtain ⟨u70_0, u70_1⟩ := u70
          have hw : iv u70_0 1 64 ∧ True := hw
          obtain ⟨iu70_0, -⟩ := hw
          obtain ⟨hP1, hK1, hD1⟩ := hB
          rw [ht] at hP1
          have hK1 := va_K.moved hvm.symm hK1
          obtain ⟨hP, hD⟩ := nv_join (wf := [(h0, .inr (8, [.ref h1, .ref h2, .int u70_0, .int x3, .int x4])), (h1, .inl (y0, 64, .inl u70_1))]) hP hD [0, 1] [] rfl rfl (by decide) (by decide) hk1 hFc hP1 hD1 rfl
          have hK := (hK.sub (tys' := []) [] rfl).app hK1
          generalize H1 = H at hP hS ⊢
          have hK : va_K (dC, dI) vwCl [(y0, .int)] s := hK
          refine lv_iinc (v := 4) (lv' := [(3, .int 4), (0, .ref h0), (1, .int x0), (2, .int x1)]) hx hb dX8_putName_26 hl (k := 0) rfl (by decide) (by decide) rfl (fun ls hl => ?_)
          refine lv_goto (tgt := 2) hx hb dX8_putName_29 (by decide) ?_
          refine lv_iload_n hx hb dX8_putName_2 rfl (lv_at hl 0 rfl) ?_
          refine lv_iconst (v := 4) hx hb dX8_putName_3 (by decide) ?_
          refine lv_icmp_ge (tgt := 32) hx hb dX8_putName_4 (by decide) (fun _ => ?_) (fun c => absurd (by decide) c)
          exact j31 u70_0 u70_1 (iv_w iu70_0 (by decide) (by decide)) _ _ hK hP hD hS ls (lv_sub hl [1, 3] rfl)
